/-! THE CAMP: acts and nights -/
/-- a night: the gain of each, less a tenth -/
def gnC (c : Camp) (m : Nat) : Int32 := gsum (wc_goldOn c) (clB (wc_claimers c) (nI m) 64 &&& wc_known c m) 64
def ngt (c : Camp) : Nat → Camp
  | 0 => c
  | n + 1 => wc_s_salts (wc_s_womans (ngt c n) (wc_womans (ngt c n) + gnC c n / 10)) (upd (wc_salts (ngt c n)) n (if wc_salts (ngt c n) n + gnC c n - gnC c n / 10 < 999 then wc_salts (ngt c n) n + gnC c n - gnC c n / 10 else 999))
theorem ngt_same (c : Camp) : ∀ n, wc_goldOn (ngt c n) = wc_goldOn c ∧ wc_claimers (ngt c n) = wc_claimers c ∧ wc_known (ngt c n) = wc_known c ∧ wc_tents (ngt c n) = wc_tents c
  | 0 => ⟨rfl, rfl, rfl, rfl⟩
  | n + 1 => ngt_same c n
theorem ngt_gn (c : Camp) (n m : Nat) : gsum (wc_goldOn (ngt c n)) (clB (wc_claimers (ngt c n)) (nI m) 64 &&& wc_known (ngt c n) m) 64 = gnC c m := by
  obtain ⟨a, b, d, -⟩ := ngt_same c n
  rw [a, b, d]
  rfl
theorem lp_X0_passNight {h : Wd} {k : Nat} {c : Camp} (hk : k + 6 < 76) : ∀ n j, j + n = 6 → ∀ z1 z2 : Value, WW mX0_passNight 2 [.ref k, .int (nI j), z1, z2] [] (wc h k (ngt c j)) none (wc h k (ngt c 6)) := by
  intro n
  induction n with
  | zero =>
    intro j hj z1 z2
    obtain rfl : j = 6 := by omega
    refine r_iload_1 (pc := 2) dX0_passNight_2 ?_
    refine r_bipush (pc := 3) 6 dX0_passNight_3 (by decide) ?_
    refine r_icmp_ge (pc := 5) 68 dX0_passNight_5 (by decide) (fun _ => ?_) (fun c5 => absurd (nI_le (a := 6) (b := 6) (by omega) (by omega)) (c5))
    refine r_vret (pc := 68) dX0_passNight_68 rfl rfl rfl
  | succ n ih =>
    intro j hj z1 z2
    refine r_iload_1 (pc := 2) dX0_passNight_2 ?_
    refine r_bipush (pc := 3) 6 dX0_passNight_3 (by decide) ?_
    refine r_icmp_ge (pc := 5) 68 dX0_passNight_5 (by decide) (fun c5 => absurd c5 (nI_ge (a := j) (b := 6) (by omega) (by decide))) (fun _ => ?_)
    refine r_aload_0 (pc := 8) dX0_passNight_8 ?_
    refine r_aload_0 (pc := 9) dX0_passNight_9 ?_
    refine r_iload_1 (pc := 10) dX0_passNight_10 ?_
    refine r_cV1_1 (pc := 11) (ct_X0_cellsClaimedBy hk) cv_X0_cellsClaimedBy ⟨Nat.le_of_ble_eq_true rfl, Nat.le_of_ble_eq_true rfl⟩ ml_X0_54 dX0_passNight_11 (by omega) (wc_o _ _ _) rfl rfl (Nat.le_of_ble_eq_true rfl) ?_
    refine r_aload_0 (pc := 14) dX0_passNight_14 ?_
    refine r_wc_get_known (pc := 15) hk fl_X0_24 dX0_passNight_15 ?_
    refine r_iload_1 (pc := 18) dX0_passNight_18 ?_
    refine r_wc_ld_known (pc := 19) hk (by omega) dX0_passNight_19 ?_
    refine r_land (pc := 20) dX0_passNight_20 ?_
    refine r_cV1_1 (pc := 21) (ct_X0_goldIn hk) cv_X0_goldIn ⟨Nat.le_of_ble_eq_true rfl, Nat.le_of_ble_eq_true rfl⟩ ml_X0_95 dX0_passNight_21 (by omega) (wc_o _ _ _) rfl rfl (Nat.le_of_ble_eq_true rfl) ?_
    rw [ngt_gn]
    refine r_istore_2 (pc := 24) dX0_passNight_24 rfl (by decide) ?_
    refine r_iload_2 (pc := 25) dX0_passNight_25 ?_
    refine r_bipush (pc := 26) 10 dX0_passNight_26 (by decide) ?_
    refine r_idiv (pc := 28) dX0_passNight_28 (by decide) ?_
    refine r_istore_3 (pc := 29) dX0_passNight_29 rfl (by decide) ?_
    refine r_aload_0 (pc := 30) dX0_passNight_30 ?_
    refine r_dup (pc := 31) dX0_passNight_31 rfl ?_
    refine r_wc_get_womans (pc := 32) hk fl_X0_47 dX0_passNight_32 ?_
    refine r_iload_3 (pc := 35) dX0_passNight_35 ?_
    refine r_iadd (pc := 36) dX0_passNight_36 ?_
    refine r_wc_put_womans (pc := 37) hk fl_X0_47 dX0_passNight_37 ?_
    refine r_aload_0 (pc := 40) dX0_passNight_40 ?_
    refine r_wc_get_salts (pc := 41) hk fl_X0_21 dX0_passNight_41 ?_
    refine r_iload_1 (pc := 44) dX0_passNight_44 ?_
    refine r_sipush (pc := 45) 999 dX0_passNight_45 (by decide) ?_
    refine r_aload_0 (pc := 48) dX0_passNight_48 ?_
    refine r_wc_get_salts (pc := 49) hk fl_X0_21 dX0_passNight_49 ?_
    refine r_iload_1 (pc := 52) dX0_passNight_52 ?_
    refine r_wc_ld_salts (pc := 53) hk (by omega) dX0_passNight_53 ?_
    refine r_iload_2 (pc := 54) dX0_passNight_54 ?_
    refine r_iadd (pc := 55) dX0_passNight_55 ?_
    refine r_iload_3 (pc := 56) dX0_passNight_56 ?_
    refine r_isub (pc := 57) dX0_passNight_57 ?_
    refine r_min (pc := 58) dX0_passNight_58 ml_X0_101 (by decide) (Nat.le_of_ble_eq_true rfl) ?_
    refine r_wc_st_salts (pc := 61) hk (by omega) dX0_passNight_61 ?_
    refine r_inc_1 (pc := 62) dX0_passNight_62 rfl (by decide) ?_
    refine r_goto (pc := 65) 2 dX0_passNight_65 (by decide) ?_
    exact ih (j + 1) (by omega) _ _
theorem ct_X0_passNight {h : Wd} {k : Nat} {c : Camp} (hk : k + 6 < 76) : Ct mX0_passNight [.ref k] (wc h k c) none (wc h k (ngt c 6)) := by
  refine Ct.of (Z := List.replicate 3 .null) (by decide) (Nat.le_of_ble_eq_true rfl) (fun z hz => List.eq_of_mem_replicate hz) ?_
  show WW mX0_passNight 0 [.ref k, .null, .null, .null] [] _ _ _
  refine r_iconst (pc := 0) 0 dX0_passNight_0 (by decide) ?_
  refine r_istore_1 (pc := 1) dX0_passNight_1 rfl (by decide) ?_
  exact lp_X0_passNight (c := c) hk 6 0 rfl _ _
/-- an act of a man who is there and that can be, but a night -/
def mvT (c : Camp) (m : Nat) (deed : Int32) : Camp := wc_s_tents c (upd (wc_tents c) m (stF (wc_tents c m) deed))
def pfm (c : Camp) (m : Nat) (deed : Int32) : Camp :=
  if deed = 4 then stK (mvT c m deed) m (wc_tents c m).toNatClampNeg true
  else if deed = 5 then wc_s_claimers (mvT c m deed) (upd (wc_claimers c) (wc_tents c m).toNatClampNeg (nI m))
  else if deed = 7 then wc_s_withCold (mvT c m deed) (wc_withCold c ^^^ bW m)
  else if deed = 8 then wc_s_whistling (mvT c m deed) (wc_whistling c ^^^ bW m)
  else mvT c m deed
theorem ct_X0_performN {h : Wd} {k : Nat} {c : Camp} {x : Int32} (hk : k + 6 < 76) : Ct mX0_perform [.ref k, .int x, .int 6] (wc h k c) none (wc h k (ngt c 6)) := by
  refine Ct.of (Z := List.replicate 0 .null) (by decide) (Nat.le_of_ble_eq_true rfl) (fun z hz => List.eq_of_mem_replicate hz) ?_
  show WW mX0_perform 0 [.ref k, .int x, .int 6] [] _ _ _
  refine r_iload_2 (pc := 0) dX0_perform_0 ?_
  refine r_bipush (pc := 1) 6 dX0_perform_1 (by decide) ?_
  refine r_icmp_ne (pc := 3) 11 dX0_perform_3 (by decide) (fun c3 => absurd (rfl) c3) (fun _ => ?_)
  refine r_aload_0 (pc := 6) dX0_perform_6 ?_
  refine r_cV0_0 (pc := 7) (ct_X0_passNight hk) cv_X0_passNight ⟨Nat.le_of_ble_eq_true rfl, Nat.le_of_ble_eq_true rfl⟩ ml_X0_134 dX0_perform_7 (by omega) (wc_o _ _ _) rfl rfl (Nat.le_of_ble_eq_true rfl) ?_
  refine r_vret (pc := 10) dX0_perform_10 rfl rfl rfl
theorem stF_4 (x : Int32) : stF x 4 = x := by simp [stF]
theorem stF_5 (x : Int32) : stF x 5 = x := by simp [stF]
theorem ct_X0_perform {h : Wd} {k m : Nat} {c : Camp} {deed : Int32} (hk : k + 6 < 76) (hm : m < 6) (hd : ¬ deed = 6) (hT : okT (wc_tents c)) : Ct mX0_perform [.ref k, .int (nI m), .int deed] (wc h k c) none (wc h k (pfm c m deed)) := by
  obtain ⟨t, ht, et⟩ := hT m hm
  have en : (nI t).toNatClampNeg = t := ci ht (by decide)
  have eu : wc_tents (wc_s_tents c (upd (wc_tents c) m (stF (wc_tents c m) deed))) m = stF (wc_tents c m) deed := pk_us
  refine Ct.of (Z := List.replicate 0 .null) (by decide) (Nat.le_of_ble_eq_true rfl) (fun z hz => List.eq_of_mem_replicate hz) ?_
  show WW mX0_perform 0 [.ref k, .int (nI m), .int deed] [] _ _ _
  refine r_iload_2 (pc := 0) dX0_perform_0 ?_
  refine r_bipush (pc := 1) 6 dX0_perform_1 (by decide) ?_
  refine r_icmp_ne (pc := 3) 11 dX0_perform_3 (by decide) (fun _ => ?_) (fun c3 => absurd c3 (hd))
  refine r_iload_1 (pc := 11) dX0_perform_11 ?_
  refine r_cSN1_1 (pc := 12) (ct_X6_isManNumber) cs_X6_isManNumber ⟨Nat.le_of_ble_eq_true rfl, Nat.le_of_ble_eq_true rfl⟩ (List.mem_of_getElem? (i := 2) rfl) dX0_perform_12 rfl (Nat.le_of_ble_eq_true rfl) ?_
  refine r_if_ne (pc := 15) 19 dX0_perform_15 (by decide) (fun _ => ?_) (fun c15 => absurd c15 (by rw [isM_n hm]; decide))
  refine r_aload_0 (pc := 19) dX0_perform_19 ?_
  refine r_wc_get_tents (pc := 20) hk fl_X0_18 dX0_perform_20 ?_
  refine r_iload_1 (pc := 23) dX0_perform_23 ?_
  refine r_aload_0 (pc := 24) dX0_perform_24 ?_
  refine r_wc_get_tents (pc := 25) hk fl_X0_18 dX0_perform_25 ?_
  refine r_iload_1 (pc := 28) dX0_perform_28 ?_
  refine r_wc_ld_tents (pc := 29) hk (by omega) dX0_perform_29 ?_
  refine r_iload_2 (pc := 30) dX0_perform_30 ?_
  refine r_cS1_2 (pc := 31) (ct_X0_stepFrom) cs_X0_stepFrom ⟨Nat.le_of_ble_eq_true rfl, Nat.le_of_ble_eq_true rfl⟩ ml_X0_125 dX0_perform_31 rfl (Nat.le_of_ble_eq_true rfl) ?_
  refine r_wc_st_tents (pc := 34) hk (by omega) dX0_perform_34 ?_
  refine r_iload_2 (pc := 35) dX0_perform_35 ?_
  by_cases e36_4 : deed = 4
  · refine r_tabIn (pc := 36) (off := 36) 4 72 dX0_perform_36 (by rw [e36_4]; decide) (by decide) (by decide) rfl (by decide) ?_
    refine r_aload_0 (pc := 72) dX0_perform_72 ?_
    refine r_iload_1 (pc := 73) dX0_perform_73 ?_
    refine r_aload_0 (pc := 74) dX0_perform_74 ?_
    refine r_wc_get_tents (pc := 75) hk fl_X0_18 dX0_perform_75 ?_
    refine r_iload_1 (pc := 78) dX0_perform_78 ?_
    refine r_wc_ld_tents (pc := 79) hk (by omega) dX0_perform_79 ?_
    rw [eu, e36_4, stF_4, et]
    refine r_iconst (pc := 80) 1 dX0_perform_80 (by decide) ?_
    refine r_cV0_3 (pc := 81) (ct_X0_setKnown hk hm ht) cv_X0_setKnown ⟨Nat.le_of_ble_eq_true rfl, Nat.le_of_ble_eq_true rfl⟩ ml_X0_137 dX0_perform_81 (by omega) (wc_o _ _ _) rfl rfl (Nat.le_of_ble_eq_true rfl) ?_
    refine r_goto (pc := 84) 131 dX0_perform_84 (by decide) ?_
    refine r_vret (pc := 131) dX0_perform_131 rfl rfl (by simp only [pfm, mvT, e36_4, stF_4, et, en]; rfl)
  by_cases e36_5 : deed = 5
  · refine r_tabIn (pc := 36) (off := 51) 5 87 dX0_perform_36 (by rw [e36_5]; decide) (by decide) (by decide) rfl (by decide) ?_
    refine r_aload_0 (pc := 87) dX0_perform_87 ?_
    refine r_aload_0 (pc := 88) dX0_perform_88 ?_
    refine r_wc_get_tents (pc := 89) hk fl_X0_18 dX0_perform_89 ?_
    refine r_iload_1 (pc := 92) dX0_perform_92 ?_
    refine r_wc_ld_tents (pc := 93) hk (by omega) dX0_perform_93 ?_
    rw [eu, e36_5, stF_5, et]
    refine r_iload_1 (pc := 94) dX0_perform_94 ?_
    refine r_cV0_2 (pc := 95) (ct_X0_setClaimer hk ht) cv_X0_setClaimer ⟨Nat.le_of_ble_eq_true rfl, Nat.le_of_ble_eq_true rfl⟩ ml_X0_141 dX0_perform_95 (by omega) (wc_o _ _ _) rfl rfl (Nat.le_of_ble_eq_true rfl) ?_
    refine r_goto (pc := 98) 131 dX0_perform_98 (by decide) ?_
    refine r_vret (pc := 131) dX0_perform_131 rfl rfl (by simp only [pfm, mvT, e36_5, stF_5, et, en]; rfl)
  by_cases e36_6 : deed = 6
  · refine r_tabIn (pc := 36) (off := 95) 6 131 dX0_perform_36 (by rw [e36_6]; decide) (by decide) (by decide) rfl (by decide) ?_
    refine r_vret (pc := 131) dX0_perform_131 rfl rfl (absurd e36_6 hd)
  by_cases e36_7 : deed = 7
  · refine r_tabIn (pc := 36) (off := 65) 7 101 dX0_perform_36 (by rw [e36_7]; decide) (by decide) (by decide) rfl (by decide) ?_
    refine r_aload_0 (pc := 101) dX0_perform_101 ?_
    refine r_dup (pc := 102) dX0_perform_102 rfl ?_
    refine r_wc_get_withCold (pc := 103) hk fl_X0_41 dX0_perform_103 ?_
    refine r_iconst (pc := 106) 1 dX0_perform_106 (by decide) ?_
    refine r_iload_1 (pc := 107) dX0_perform_107 ?_
    refine r_ishl (pc := 108) dX0_perform_108 ?_
    refine r_ixor (pc := 109) dX0_perform_109 ?_
    refine r_wc_put_withCold (pc := 110) hk fl_X0_41 dX0_perform_110 ?_
    refine r_goto (pc := 113) 131 dX0_perform_113 (by decide) ?_
    refine r_vret (pc := 131) dX0_perform_131 rfl rfl (by simp only [pfm, mvT, e36_7]; rfl)
  by_cases e36_8 : deed = 8
  · refine r_tabIn (pc := 36) (off := 80) 8 116 dX0_perform_36 (by rw [e36_8]; decide) (by decide) (by decide) rfl (by decide) ?_
    refine r_aload_0 (pc := 116) dX0_perform_116 ?_
    refine r_dup (pc := 117) dX0_perform_117 rfl ?_
    refine r_wc_get_whistling (pc := 118) hk fl_X0_44 dX0_perform_118 ?_
    refine r_iconst (pc := 121) 1 dX0_perform_121 (by decide) ?_
    refine r_iload_1 (pc := 122) dX0_perform_122 ?_
    refine r_ishl (pc := 123) dX0_perform_123 ?_
    refine r_ixor (pc := 124) dX0_perform_124 ?_
    refine r_wc_put_whistling (pc := 125) hk fl_X0_44 dX0_perform_125 ?_
    refine r_goto (pc := 128) 131 dX0_perform_128 (by decide) ?_
    refine r_vret (pc := 131) dX0_perform_131 rfl rfl (by simp only [pfm, mvT, e36_8]; rfl)
  refine r_tabOut (pc := 36) 131 dX0_perform_36 (by have z0 := lv_neT (a := 4) e36_4 (by decide); have z1 := lv_neT (a := 5) e36_5 (by decide); have z2 := lv_neT (a := 6) e36_6 (by decide); have z3 := lv_neT (a := 7) e36_7 (by decide); have z4 := lv_neT (a := 8) e36_8 (by decide); omega) (by decide) ?_
  refine r_vret (pc := 131) dX0_perform_131 rfl rfl (by simp only [pfm, mvT, if_neg e36_4, if_neg e36_5, if_neg e36_7, if_neg e36_8])
