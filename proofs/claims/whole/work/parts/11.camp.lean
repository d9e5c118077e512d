/-! THE CAMP: reads and writes -/
theorem hasB_n {s : Int32} {m : Nat} (hm : m < 6) : hasB s (nI m) = bt s m := by
  unfold hasB
  rw [isM_n hm, Bool.true_and]
  cases hb : bt s m with
  | true => exact decide_eq_true ((ib_s s (by omega)).mpr hb)
  | false => exact decide_eq_false (fun z => by rw [(ib_s s (by omega)).mp z] at hb; cases hb)
theorem hasB_t {s x : Int32} (h : hasB s x = true) : ∃ m, m < 6 ∧ x = nI m ∧ bt s m = true := by
  have h1 : isM x = true := by
    unfold hasB at h
    exact (Bool.and_eq_true _ _ ▸ h).1
  obtain ⟨m, hm, rfl⟩ := isM_t h1
  exact ⟨m, hm, rfl, by rw [← hasB_n hm]; exact h⟩
theorem ct_X0_goldOf {h : Wd} {k j : Nat} {c : Camp} (hk : k + 6 < 76) (hj : j < 64) : Ct mX0_goldOf [.ref k, .int (nI j)] (wc h k c) (some (.int (wc_goldOn c j))) (wc h k c) := by
  refine Ct.of (Z := List.replicate 0 .null) (by decide) (Nat.le_of_ble_eq_true rfl) (fun z hz => List.eq_of_mem_replicate hz) ?_
  show WW mX0_goldOf 0 [.ref k, .int (nI j)] [] _ _ _
  refine r_iload_1 (pc := 0) dX0_goldOf_0 ?_
  refine r_cSN1_1 (pc := 1) (ct_X6_isCell) cs_X6_isCell ⟨Nat.le_of_ble_eq_true rfl, Nat.le_of_ble_eq_true rfl⟩ (List.mem_of_getElem? (i := 1) rfl) dX0_goldOf_1 rfl (Nat.le_of_ble_eq_true rfl) ?_
  refine r_if_eq (pc := 4) 16 dX0_goldOf_4 (by decide) (fun c4 => absurd c4 (by rw [isC_n hj]; decide)) (fun _ => ?_)
  refine r_aload_0 (pc := 7) dX0_goldOf_7 ?_
  refine r_wc_get_goldOn (pc := 8) hk fl_X0_9 dX0_goldOf_8 ?_
  refine r_iload_1 (pc := 11) dX0_goldOf_11 ?_
  refine r_wc_ld_goldOn (pc := 12) hk (by omega) dX0_goldOf_12 ?_
  refine r_goto (pc := 13) 17 dX0_goldOf_13 (by decide) ?_
  refine r_iret (pc := 17) dX0_goldOf_17 rfl (by first | rfl | simp_all [bI]) rfl
theorem ct_X0_putGold {h : Wd} {k j : Nat} {c : Camp} {v : Int32} (hk : k + 6 < 76) (hj : j < 64) : Ct mX0_putGold [.ref k, .int (nI j), .int v] (wc h k c) none (wc h k (wc_s_goldOn c (upd (wc_goldOn c) j v))) := by
  refine Ct.of (Z := List.replicate 0 .null) (by decide) (Nat.le_of_ble_eq_true rfl) (fun z hz => List.eq_of_mem_replicate hz) ?_
  show WW mX0_putGold 0 [.ref k, .int (nI j), .int v] [] _ _ _
  refine r_iload_1 (pc := 0) dX0_putGold_0 ?_
  refine r_cSN1_1 (pc := 1) (ct_X6_isCell) cs_X6_isCell ⟨Nat.le_of_ble_eq_true rfl, Nat.le_of_ble_eq_true rfl⟩ (List.mem_of_getElem? (i := 1) rfl) dX0_putGold_1 rfl (Nat.le_of_ble_eq_true rfl) ?_
  refine r_if_eq (pc := 4) 14 dX0_putGold_4 (by decide) (fun c4 => absurd c4 (by rw [isC_n hj]; decide)) (fun _ => ?_)
  refine r_aload_0 (pc := 7) dX0_putGold_7 ?_
  refine r_wc_get_goldOn (pc := 8) hk fl_X0_9 dX0_putGold_8 ?_
  refine r_iload_1 (pc := 11) dX0_putGold_11 ?_
  refine r_iload_2 (pc := 12) dX0_putGold_12 ?_
  refine r_wc_st_goldOn (pc := 13) hk (by omega) dX0_putGold_13 ?_
  refine r_vret (pc := 14) dX0_putGold_14 rfl rfl rfl
theorem ct_X0_claimerOf {h : Wd} {k j : Nat} {c : Camp} (hk : k + 6 < 76) (hj : j < 64) : Ct mX0_claimerOf [.ref k, .int (nI j)] (wc h k c) (some (.int (wc_claimers c j))) (wc h k c) := by
  refine Ct.of (Z := List.replicate 0 .null) (by decide) (Nat.le_of_ble_eq_true rfl) (fun z hz => List.eq_of_mem_replicate hz) ?_
  show WW mX0_claimerOf 0 [.ref k, .int (nI j)] [] _ _ _
  refine r_iload_1 (pc := 0) dX0_claimerOf_0 ?_
  refine r_cSN1_1 (pc := 1) (ct_X6_isCell) cs_X6_isCell ⟨Nat.le_of_ble_eq_true rfl, Nat.le_of_ble_eq_true rfl⟩ (List.mem_of_getElem? (i := 1) rfl) dX0_claimerOf_1 rfl (Nat.le_of_ble_eq_true rfl) ?_
  refine r_if_eq (pc := 4) 16 dX0_claimerOf_4 (by decide) (fun c4 => absurd c4 (by rw [isC_n hj]; decide)) (fun _ => ?_)
  refine r_aload_0 (pc := 7) dX0_claimerOf_7 ?_
  refine r_wc_get_claimers (pc := 8) hk fl_X0_15 dX0_claimerOf_8 ?_
  refine r_iload_1 (pc := 11) dX0_claimerOf_11 ?_
  refine r_wc_ld_claimers (pc := 12) hk (by omega) dX0_claimerOf_12 ?_
  refine r_goto (pc := 13) 17 dX0_claimerOf_13 (by decide) ?_
  refine r_iret (pc := 17) dX0_claimerOf_17 rfl (by first | rfl | simp_all [bI]) rfl
theorem ct_X0_setClaimer {h : Wd} {k j : Nat} {c : Camp} {v : Int32} (hk : k + 6 < 76) (hj : j < 64) : Ct mX0_setClaimer [.ref k, .int (nI j), .int v] (wc h k c) none (wc h k (wc_s_claimers c (upd (wc_claimers c) j v))) := by
  refine Ct.of (Z := List.replicate 0 .null) (by decide) (Nat.le_of_ble_eq_true rfl) (fun z hz => List.eq_of_mem_replicate hz) ?_
  show WW mX0_setClaimer 0 [.ref k, .int (nI j), .int v] [] _ _ _
  refine r_iload_1 (pc := 0) dX0_setClaimer_0 ?_
  refine r_cSN1_1 (pc := 1) (ct_X6_isCell) cs_X6_isCell ⟨Nat.le_of_ble_eq_true rfl, Nat.le_of_ble_eq_true rfl⟩ (List.mem_of_getElem? (i := 1) rfl) dX0_setClaimer_1 rfl (Nat.le_of_ble_eq_true rfl) ?_
  refine r_if_eq (pc := 4) 14 dX0_setClaimer_4 (by decide) (fun c4 => absurd c4 (by rw [isC_n hj]; decide)) (fun _ => ?_)
  refine r_aload_0 (pc := 7) dX0_setClaimer_7 ?_
  refine r_wc_get_claimers (pc := 8) hk fl_X0_15 dX0_setClaimer_8 ?_
  refine r_iload_1 (pc := 11) dX0_setClaimer_11 ?_
  refine r_iload_2 (pc := 12) dX0_setClaimer_12 ?_
  refine r_wc_st_claimers (pc := 13) hk (by omega) dX0_setClaimer_13 ?_
  refine r_vret (pc := 14) dX0_setClaimer_14 rfl rfl rfl
theorem ct_X0_menBits {h : Wd} {k : Nat} {c : Camp} (hk : k + 6 < 76) : Ct mX0_menBits [.ref k] (wc h k c) (some (.int (wc_men c))) (wc h k c) := by
  refine Ct.of (Z := List.replicate 0 .null) (by decide) (Nat.le_of_ble_eq_true rfl) (fun z hz => List.eq_of_mem_replicate hz) ?_
  show WW mX0_menBits 0 [.ref k] [] _ _ _
  refine r_aload_0 (pc := 0) dX0_menBits_0 ?_
  refine r_wc_get_men (pc := 1) hk fl_X0_37 dX0_menBits_1 ?_
  refine r_iret (pc := 4) dX0_menBits_4 rfl (by first | rfl | simp_all [bI]) rfl
theorem ct_X0_womansShare {h : Wd} {k : Nat} {c : Camp} (hk : k + 6 < 76) : Ct mX0_womansShare [.ref k] (wc h k c) (some (.int (wc_womans c))) (wc h k c) := by
  refine Ct.of (Z := List.replicate 0 .null) (by decide) (Nat.le_of_ble_eq_true rfl) (fun z hz => List.eq_of_mem_replicate hz) ?_
  show WW mX0_womansShare 0 [.ref k] [] _ _ _
  refine r_aload_0 (pc := 0) dX0_womansShare_0 ?_
  refine r_wc_get_womans (pc := 1) hk fl_X0_47 dX0_womansShare_1 ?_
  refine r_iret (pc := 4) dX0_womansShare_4 rfl (by first | rfl | simp_all [bI]) rfl
theorem ct_X0_countMen {h : Wd} {k : Nat} {c : Camp} (hk : k + 6 < 76) : Ct mX0_countMen [.ref k] (wc h k c) (some (.int (nI (cnt (bt (wc_men c)) 32)))) (wc h k c) := by
  refine Ct.of (Z := List.replicate 0 .null) (by decide) (Nat.le_of_ble_eq_true rfl) (fun z hz => List.eq_of_mem_replicate hz) ?_
  show WW mX0_countMen 0 [.ref k] [] _ _ _
  refine r_aload_0 (pc := 0) dX0_countMen_0 ?_
  refine r_wc_get_men (pc := 1) hk fl_X0_37 dX0_countMen_1 ?_
  refine r_cS1_1 (pc := 4) (ct_J6_bitCount_0f7a4) cs_J6_bitCount_0f7a4 ⟨Nat.le_of_ble_eq_true rfl, Nat.le_of_ble_eq_true rfl⟩ ml_X0_68 dX0_countMen_4 rfl (Nat.le_of_ble_eq_true rfl) ?_
  refine r_iret (pc := 7) dX0_countMen_7 rfl (by first | rfl | simp_all [bI]) rfl
theorem ct_X0_isThere {h : Wd} {k : Nat} {c : Camp} {x : Int32} (hk : k + 6 < 76) : Ct mX0_isThere [.ref k, .int x] (wc h k c) (some (.int (bI (hasB (wc_men c) x)))) (wc h k c) := by
  refine Ct.of (Z := List.replicate 0 .null) (by decide) (Nat.le_of_ble_eq_true rfl) (fun z hz => List.eq_of_mem_replicate hz) ?_
  show WW mX0_isThere 0 [.ref k, .int x] [] _ _ _
  refine r_aload_0 (pc := 0) dX0_isThere_0 ?_
  refine r_wc_get_men (pc := 1) hk fl_X0_37 dX0_isThere_1 ?_
  refine r_iload_1 (pc := 4) dX0_isThere_4 ?_
  refine r_cSN1_2 (pc := 5) (ct_X6_hasBit) cs_X6_hasBit ⟨Nat.le_of_ble_eq_true rfl, Nat.le_of_ble_eq_true rfl⟩ (List.mem_of_getElem? (i := 3) rfl) dX0_isThere_5 rfl (Nat.le_of_ble_eq_true rfl) ?_
  refine r_zret (pc := 8) dX0_isThere_8 rfl (by first | rfl | exact bI_nar _) (by first | rfl | simp_all [bI]) rfl
theorem ct_X0_hasCold {h : Wd} {k : Nat} {c : Camp} {x : Int32} (hk : k + 6 < 76) : Ct mX0_hasCold [.ref k, .int x] (wc h k c) (some (.int (bI (hasB (wc_withCold c) x)))) (wc h k c) := by
  refine Ct.of (Z := List.replicate 0 .null) (by decide) (Nat.le_of_ble_eq_true rfl) (fun z hz => List.eq_of_mem_replicate hz) ?_
  show WW mX0_hasCold 0 [.ref k, .int x] [] _ _ _
  refine r_aload_0 (pc := 0) dX0_hasCold_0 ?_
  refine r_wc_get_withCold (pc := 1) hk fl_X0_41 dX0_hasCold_1 ?_
  refine r_iload_1 (pc := 4) dX0_hasCold_4 ?_
  refine r_cSN1_2 (pc := 5) (ct_X6_hasBit) cs_X6_hasBit ⟨Nat.le_of_ble_eq_true rfl, Nat.le_of_ble_eq_true rfl⟩ (List.mem_of_getElem? (i := 3) rfl) dX0_hasCold_5 rfl (Nat.le_of_ble_eq_true rfl) ?_
  refine r_zret (pc := 8) dX0_hasCold_8 rfl (by first | rfl | exact bI_nar _) (by first | rfl | simp_all [bI]) rfl
theorem ct_X0_isWhistling {h : Wd} {k : Nat} {c : Camp} {x : Int32} (hk : k + 6 < 76) : Ct mX0_isWhistling [.ref k, .int x] (wc h k c) (some (.int (bI (hasB (wc_whistling c) x)))) (wc h k c) := by
  refine Ct.of (Z := List.replicate 0 .null) (by decide) (Nat.le_of_ble_eq_true rfl) (fun z hz => List.eq_of_mem_replicate hz) ?_
  show WW mX0_isWhistling 0 [.ref k, .int x] [] _ _ _
  refine r_aload_0 (pc := 0) dX0_isWhistling_0 ?_
  refine r_wc_get_whistling (pc := 1) hk fl_X0_44 dX0_isWhistling_1 ?_
  refine r_iload_1 (pc := 4) dX0_isWhistling_4 ?_
  refine r_cSN1_2 (pc := 5) (ct_X6_hasBit) cs_X6_hasBit ⟨Nat.le_of_ble_eq_true rfl, Nat.le_of_ble_eq_true rfl⟩ (List.mem_of_getElem? (i := 3) rfl) dX0_isWhistling_5 rfl (Nat.le_of_ble_eq_true rfl) ?_
  refine r_zret (pc := 8) dX0_isWhistling_8 rfl (by first | rfl | exact bI_nar _) (by first | rfl | simp_all [bI]) rfl
theorem ct_X0_tentOf {h : Wd} {k m : Nat} {c : Camp} (hk : k + 6 < 76) (hm : m < 6) : Ct mX0_tentOf [.ref k, .int (nI m)] (wc h k c) (some (.int (wc_tents c m))) (wc h k c) := by
  refine Ct.of (Z := List.replicate 0 .null) (by decide) (Nat.le_of_ble_eq_true rfl) (fun z hz => List.eq_of_mem_replicate hz) ?_
  show WW mX0_tentOf 0 [.ref k, .int (nI m)] [] _ _ _
  refine r_iload_1 (pc := 0) dX0_tentOf_0 ?_
  refine r_cSN1_1 (pc := 1) (ct_X6_isManNumber) cs_X6_isManNumber ⟨Nat.le_of_ble_eq_true rfl, Nat.le_of_ble_eq_true rfl⟩ (List.mem_of_getElem? (i := 2) rfl) dX0_tentOf_1 rfl (Nat.le_of_ble_eq_true rfl) ?_
  refine r_if_eq (pc := 4) 16 dX0_tentOf_4 (by decide) (fun c4 => absurd c4 (by rw [isM_n hm]; decide)) (fun _ => ?_)
  refine r_aload_0 (pc := 7) dX0_tentOf_7 ?_
  refine r_wc_get_tents (pc := 8) hk fl_X0_18 dX0_tentOf_8 ?_
  refine r_iload_1 (pc := 11) dX0_tentOf_11 ?_
  refine r_wc_ld_tents (pc := 12) hk (by omega) dX0_tentOf_12 ?_
  refine r_goto (pc := 13) 17 dX0_tentOf_13 (by decide) ?_
  refine r_iret (pc := 17) dX0_tentOf_17 rfl (by first | rfl | simp_all [bI]) rfl
theorem ct_X0_saltOf {h : Wd} {k m : Nat} {c : Camp} (hk : k + 6 < 76) (hm : m < 6) : Ct mX0_saltOf [.ref k, .int (nI m)] (wc h k c) (some (.int (wc_salts c m))) (wc h k c) := by
  refine Ct.of (Z := List.replicate 0 .null) (by decide) (Nat.le_of_ble_eq_true rfl) (fun z hz => List.eq_of_mem_replicate hz) ?_
  show WW mX0_saltOf 0 [.ref k, .int (nI m)] [] _ _ _
  refine r_iload_1 (pc := 0) dX0_saltOf_0 ?_
  refine r_cSN1_1 (pc := 1) (ct_X6_isManNumber) cs_X6_isManNumber ⟨Nat.le_of_ble_eq_true rfl, Nat.le_of_ble_eq_true rfl⟩ (List.mem_of_getElem? (i := 2) rfl) dX0_saltOf_1 rfl (Nat.le_of_ble_eq_true rfl) ?_
  refine r_if_eq (pc := 4) 16 dX0_saltOf_4 (by decide) (fun c4 => absurd c4 (by rw [isM_n hm]; decide)) (fun _ => ?_)
  refine r_aload_0 (pc := 7) dX0_saltOf_7 ?_
  refine r_wc_get_salts (pc := 8) hk fl_X0_21 dX0_saltOf_8 ?_
  refine r_iload_1 (pc := 11) dX0_saltOf_11 ?_
  refine r_wc_ld_salts (pc := 12) hk (by omega) dX0_saltOf_12 ?_
  refine r_goto (pc := 13) 17 dX0_saltOf_13 (by decide) ?_
  refine r_iret (pc := 17) dX0_saltOf_17 rfl (by first | rfl | simp_all [bI]) rfl
theorem ct_X0_knownTo {h : Wd} {k m : Nat} {c : Camp} (hk : k + 6 < 76) (hm : m < 6) : Ct mX0_knownTo [.ref k, .int (nI m)] (wc h k c) (some (.long (wc_known c m))) (wc h k c) := by
  refine Ct.of (Z := List.replicate 0 .null) (by decide) (Nat.le_of_ble_eq_true rfl) (fun z hz => List.eq_of_mem_replicate hz) ?_
  show WW mX0_knownTo 0 [.ref k, .int (nI m)] [] _ _ _
  refine r_iload_1 (pc := 0) dX0_knownTo_0 ?_
  refine r_cSN1_1 (pc := 1) (ct_X6_isManNumber) cs_X6_isManNumber ⟨Nat.le_of_ble_eq_true rfl, Nat.le_of_ble_eq_true rfl⟩ (List.mem_of_getElem? (i := 2) rfl) dX0_knownTo_1 rfl (Nat.le_of_ble_eq_true rfl) ?_
  refine r_if_eq (pc := 4) 16 dX0_knownTo_4 (by decide) (fun c4 => absurd c4 (by rw [isM_n hm]; decide)) (fun _ => ?_)
  refine r_aload_0 (pc := 7) dX0_knownTo_7 ?_
  refine r_wc_get_known (pc := 8) hk fl_X0_24 dX0_knownTo_8 ?_
  refine r_iload_1 (pc := 11) dX0_knownTo_11 ?_
  refine r_wc_ld_known (pc := 12) hk (by omega) dX0_knownTo_12 ?_
  refine r_goto (pc := 13) 17 dX0_knownTo_13 (by decide) ?_
  refine r_lret (pc := 17) dX0_knownTo_17 rfl (by first | rfl | simp_all [bI]) rfl
theorem ct_X0_isKnownTo {h : Wd} {k m j : Nat} {c : Camp} (hk : k + 6 < 76) (hm : m < 6) (hj : j < 64) : Ct mX0_isKnownTo [.ref k, .int (nI m), .int (nI j)] (wc h k c) (some (.int (bI (kb (wc_known c m) j)))) (wc h k c) := by
  refine Ct.of (Z := List.replicate 0 .null) (by decide) (Nat.le_of_ble_eq_true rfl) (fun z hz => List.eq_of_mem_replicate hz) ?_
  show WW mX0_isKnownTo 0 [.ref k, .int (nI m), .int (nI j)] [] _ _ _
  refine r_iload_1 (pc := 0) dX0_isKnownTo_0 ?_
  refine r_cSN1_1 (pc := 1) (ct_X6_isManNumber) cs_X6_isManNumber ⟨Nat.le_of_ble_eq_true rfl, Nat.le_of_ble_eq_true rfl⟩ (List.mem_of_getElem? (i := 2) rfl) dX0_isKnownTo_1 rfl (Nat.le_of_ble_eq_true rfl) ?_
  refine r_if_eq (pc := 4) 33 dX0_isKnownTo_4 (by decide) (fun c4 => absurd c4 (by rw [isM_n hm]; decide)) (fun _ => ?_)
  refine r_iload_2 (pc := 7) dX0_isKnownTo_7 ?_
  refine r_cSN1_1 (pc := 8) (ct_X6_isCell) cs_X6_isCell ⟨Nat.le_of_ble_eq_true rfl, Nat.le_of_ble_eq_true rfl⟩ (List.mem_of_getElem? (i := 1) rfl) dX0_isKnownTo_8 rfl (Nat.le_of_ble_eq_true rfl) ?_
  refine r_if_eq (pc := 11) 33 dX0_isKnownTo_11 (by decide) (fun c11 => absurd c11 (by rw [isC_n hj]; decide)) (fun _ => ?_)
  refine r_aload_0 (pc := 14) dX0_isKnownTo_14 ?_
  refine r_wc_get_known (pc := 15) hk fl_X0_24 dX0_isKnownTo_15 ?_
  refine r_iload_1 (pc := 18) dX0_isKnownTo_18 ?_
  refine r_wc_ld_known (pc := 19) hk (by omega) dX0_isKnownTo_19 ?_
  refine r_iload_2 (pc := 20) dX0_isKnownTo_20 ?_
  refine r_lushr (pc := 21) dX0_isKnownTo_21 ?_
  refine r_lconst (pc := 22) 1 dX0_isKnownTo_22 (by decide) ?_
  refine r_land (pc := 23) dX0_isKnownTo_23 ?_
  refine r_lconst (pc := 24) 1 dX0_isKnownTo_24 (by decide) ?_
  refine r_lcmp_ne (pc := 25) 33 dX0_isKnownTo_25 dX0_isKnownTo_26 (by decide) (fun c25 => ?_) (fun c25 => ?_)
  · refine r_iconst (pc := 33) 0 dX0_isKnownTo_33 (by decide) ?_
    refine r_zret (pc := 34) dX0_isKnownTo_34 rfl (by first | rfl | exact bI_nar _) (by rw [Bool.eq_false_iff.mpr (fun z => c25 ((kb_u _ hj).mpr z))]; rfl) rfl
  · refine r_iconst (pc := 29) 1 dX0_isKnownTo_29 (by decide) ?_
    refine r_goto (pc := 30) 34 dX0_isKnownTo_30 (by decide) ?_
    refine r_zret (pc := 34) dX0_isKnownTo_34 rfl (by first | rfl | exact bI_nar _) (by rw [(kb_u _ hj).mp c25]; rfl) rfl
def stK (c : Camp) (m j : Nat) (b : Bool) : Camp := wc_s_known c (vp_updL (wc_known c) m (if b then wc_known c m ||| bL j else wc_known c m &&& (bL j ^^^ (-1))))
theorem ct_X0_setKnown {h : Wd} {k m j : Nat} {c : Camp} {b : Int32} (hk : k + 6 < 76) (hm : m < 6) (hj : j < 64) : Ct mX0_setKnown [.ref k, .int (nI m), .int (nI j), .int b] (wc h k c) none (wc h k (stK c m j (!decide (b = 0)))) := by
  refine Ct.of (Z := List.replicate 2 .null) (by decide) (Nat.le_of_ble_eq_true rfl) (fun z hz => List.eq_of_mem_replicate hz) ?_
  show WW mX0_setKnown 0 [.ref k, .int (nI m), .int (nI j), .int b, .null, .null] [] _ _ _
  refine r_iload_1 (pc := 0) dX0_setKnown_0 ?_
  refine r_cSN1_1 (pc := 1) (ct_X6_isManNumber) cs_X6_isManNumber ⟨Nat.le_of_ble_eq_true rfl, Nat.le_of_ble_eq_true rfl⟩ (List.mem_of_getElem? (i := 2) rfl) dX0_setKnown_1 rfl (Nat.le_of_ble_eq_true rfl) ?_
  refine r_if_eq (pc := 4) 54 dX0_setKnown_4 (by decide) (fun c4 => absurd c4 (by rw [isM_n hm]; decide)) (fun _ => ?_)
  refine r_iload_2 (pc := 7) dX0_setKnown_7 ?_
  refine r_cSN1_1 (pc := 8) (ct_X6_isCell) cs_X6_isCell ⟨Nat.le_of_ble_eq_true rfl, Nat.le_of_ble_eq_true rfl⟩ (List.mem_of_getElem? (i := 1) rfl) dX0_setKnown_8 rfl (Nat.le_of_ble_eq_true rfl) ?_
  refine r_if_eq (pc := 11) 54 dX0_setKnown_11 (by decide) (fun c11 => absurd c11 (by rw [isC_n hj]; decide)) (fun _ => ?_)
  refine r_lconst (pc := 14) 1 dX0_setKnown_14 (by decide) ?_
  refine r_iload_2 (pc := 15) dX0_setKnown_15 ?_
  refine r_lshl (pc := 16) dX0_setKnown_16 ?_
  refine r_lstore_4 (pc := 17) dX0_setKnown_17 rfl (by decide) ?_
  refine r_aload_0 (pc := 19) dX0_setKnown_19 ?_
  refine r_wc_get_known (pc := 20) hk fl_X0_24 dX0_setKnown_20 ?_
  refine r_iload_1 (pc := 23) dX0_setKnown_23 ?_
  refine r_iload_3 (pc := 24) dX0_setKnown_24 ?_
  refine r_if_eq (pc := 25) 40 dX0_setKnown_25 (by decide) (fun c25 => ?_) (fun c25 => ?_)
  · refine r_aload_0 (pc := 40) dX0_setKnown_40 ?_
    refine r_wc_get_known (pc := 41) hk fl_X0_24 dX0_setKnown_41 ?_
    refine r_iload_1 (pc := 44) dX0_setKnown_44 ?_
    refine r_wc_ld_known (pc := 45) hk (by omega) dX0_setKnown_45 ?_
    refine r_lload_4 (pc := 46) dX0_setKnown_46 ?_
    refine r_ldc2 (pc := 48) dX0_setKnown_48 kl_X0_83 ?_
    refine r_lxor (pc := 51) dX0_setKnown_51 ?_
    refine r_land (pc := 52) dX0_setKnown_52 ?_
    refine r_wc_st_known (pc := 53) hk (by omega) dX0_setKnown_53 ?_
    refine r_vret (pc := 54) dX0_setKnown_54 rfl rfl (by simp only [stK, c25]; rfl)
  · refine r_aload_0 (pc := 28) dX0_setKnown_28 ?_
    refine r_wc_get_known (pc := 29) hk fl_X0_24 dX0_setKnown_29 ?_
    refine r_iload_1 (pc := 32) dX0_setKnown_32 ?_
    refine r_wc_ld_known (pc := 33) hk (by omega) dX0_setKnown_33 ?_
    refine r_lload_4 (pc := 34) dX0_setKnown_34 ?_
    refine r_lor (pc := 36) dX0_setKnown_36 ?_
    refine r_goto (pc := 37) 53 dX0_setKnown_37 (by decide) ?_
    refine r_wc_st_known (pc := 53) hk (by omega) dX0_setKnown_53 ?_
    refine r_vret (pc := 54) dX0_setKnown_54 rfl rfl (by simp only [stK, c25]; rfl)
def fgt (c : Camp) (m : Nat) : Camp := wc_s_whistling (wc_s_withCold (wc_s_known (wc_s_salts (wc_s_tents c (upd (wc_tents c) m 0)) (upd (wc_salts c) m 0)) (vp_updL (wc_known c) m 0)) (wc_withCold c &&& (bW m ^^^ (-1)))) (wc_whistling c &&& (bW m ^^^ (-1)))
theorem ct_X0_forgetMan {h : Wd} {k m : Nat} {c : Camp} (hk : k + 6 < 76) (hm : m < 6) : Ct mX0_forgetMan [.ref k, .int (nI m)] (wc h k c) none (wc h k (fgt c m)) := by
  refine Ct.of (Z := List.replicate 0 .null) (by decide) (Nat.le_of_ble_eq_true rfl) (fun z hz => List.eq_of_mem_replicate hz) ?_
  show WW mX0_forgetMan 0 [.ref k, .int (nI m)] [] _ _ _
  refine r_iload_1 (pc := 0) dX0_forgetMan_0 ?_
  refine r_cSN1_1 (pc := 1) (ct_X6_isManNumber) cs_X6_isManNumber ⟨Nat.le_of_ble_eq_true rfl, Nat.le_of_ble_eq_true rfl⟩ (List.mem_of_getElem? (i := 2) rfl) dX0_forgetMan_1 rfl (Nat.le_of_ble_eq_true rfl) ?_
  refine r_if_eq (pc := 4) 56 dX0_forgetMan_4 (by decide) (fun c4 => absurd c4 (by rw [isM_n hm]; decide)) (fun _ => ?_)
  refine r_aload_0 (pc := 7) dX0_forgetMan_7 ?_
  refine r_wc_get_tents (pc := 8) hk fl_X0_18 dX0_forgetMan_8 ?_
  refine r_iload_1 (pc := 11) dX0_forgetMan_11 ?_
  refine r_iconst (pc := 12) 0 dX0_forgetMan_12 (by decide) ?_
  refine r_wc_st_tents (pc := 13) hk (by omega) dX0_forgetMan_13 ?_
  refine r_aload_0 (pc := 14) dX0_forgetMan_14 ?_
  refine r_wc_get_salts (pc := 15) hk fl_X0_21 dX0_forgetMan_15 ?_
  refine r_iload_1 (pc := 18) dX0_forgetMan_18 ?_
  refine r_iconst (pc := 19) 0 dX0_forgetMan_19 (by decide) ?_
  refine r_wc_st_salts (pc := 20) hk (by omega) dX0_forgetMan_20 ?_
  refine r_aload_0 (pc := 21) dX0_forgetMan_21 ?_
  refine r_wc_get_known (pc := 22) hk fl_X0_24 dX0_forgetMan_22 ?_
  refine r_iload_1 (pc := 25) dX0_forgetMan_25 ?_
  refine r_lconst (pc := 26) 0 dX0_forgetMan_26 (by decide) ?_
  refine r_wc_st_known (pc := 27) hk (by omega) dX0_forgetMan_27 ?_
  refine r_aload_0 (pc := 28) dX0_forgetMan_28 ?_
  refine r_dup (pc := 29) dX0_forgetMan_29 rfl ?_
  refine r_wc_get_withCold (pc := 30) hk fl_X0_41 dX0_forgetMan_30 ?_
  refine r_iconst (pc := 33) 1 dX0_forgetMan_33 (by decide) ?_
  refine r_iload_1 (pc := 34) dX0_forgetMan_34 ?_
  refine r_ishl (pc := 35) dX0_forgetMan_35 ?_
  refine r_iconst (pc := 36) (-1) dX0_forgetMan_36 (by decide) ?_
  refine r_ixor (pc := 37) dX0_forgetMan_37 ?_
  refine r_iand (pc := 38) dX0_forgetMan_38 ?_
  refine r_wc_put_withCold (pc := 39) hk fl_X0_41 dX0_forgetMan_39 ?_
  refine r_aload_0 (pc := 42) dX0_forgetMan_42 ?_
  refine r_dup (pc := 43) dX0_forgetMan_43 rfl ?_
  refine r_wc_get_whistling (pc := 44) hk fl_X0_44 dX0_forgetMan_44 ?_
  refine r_iconst (pc := 47) 1 dX0_forgetMan_47 (by decide) ?_
  refine r_iload_1 (pc := 48) dX0_forgetMan_48 ?_
  refine r_ishl (pc := 49) dX0_forgetMan_49 ?_
  refine r_iconst (pc := 50) (-1) dX0_forgetMan_50 (by decide) ?_
  refine r_ixor (pc := 51) dX0_forgetMan_51 ?_
  refine r_iand (pc := 52) dX0_forgetMan_52 ?_
  refine r_wc_put_whistling (pc := 53) hk fl_X0_44 dX0_forgetMan_53 ?_
  refine r_vret (pc := 56) dX0_forgetMan_56 rfl rfl rfl
theorem ct_X0_welcome {h : Wd} {k m : Nat} {c : Camp} {x : Int32} (hk : k + 6 < 76) (hm : m < 6) : Ct mX0_welcome [.ref k, .int (nI m), .int x] (wc h k c) none (wc h k (wc_s_tents (wc_s_men (fgt c m) (wc_men c ||| bW m)) (upd (wc_tents (fgt c m)) m x))) := by
  refine Ct.of (Z := List.replicate 0 .null) (by decide) (Nat.le_of_ble_eq_true rfl) (fun z hz => List.eq_of_mem_replicate hz) ?_
  show WW mX0_welcome 0 [.ref k, .int (nI m), .int x] [] _ _ _
  refine r_iload_1 (pc := 0) dX0_welcome_0 ?_
  refine r_cSN1_1 (pc := 1) (ct_X6_isManNumber) cs_X6_isManNumber ⟨Nat.le_of_ble_eq_true rfl, Nat.le_of_ble_eq_true rfl⟩ (List.mem_of_getElem? (i := 2) rfl) dX0_welcome_1 rfl (Nat.le_of_ble_eq_true rfl) ?_
  refine r_if_eq (pc := 4) 31 dX0_welcome_4 (by decide) (fun c4 => absurd c4 (by rw [isM_n hm]; decide)) (fun _ => ?_)
  refine r_aload_0 (pc := 7) dX0_welcome_7 ?_
  refine r_iload_1 (pc := 8) dX0_welcome_8 ?_
  refine r_cV0_1 (pc := 9) (ct_X0_forgetMan hk hm) cv_X0_forgetMan ⟨Nat.le_of_ble_eq_true rfl, Nat.le_of_ble_eq_true rfl⟩ ml_X0_79 dX0_welcome_9 (by omega) (wc_o _ _ _) rfl rfl (Nat.le_of_ble_eq_true rfl) ?_
  refine r_aload_0 (pc := 12) dX0_welcome_12 ?_
  refine r_dup (pc := 13) dX0_welcome_13 rfl ?_
  refine r_wc_get_men (pc := 14) hk fl_X0_37 dX0_welcome_14 ?_
  refine r_iconst (pc := 17) 1 dX0_welcome_17 (by decide) ?_
  refine r_iload_1 (pc := 18) dX0_welcome_18 ?_
  refine r_ishl (pc := 19) dX0_welcome_19 ?_
  refine r_ior (pc := 20) dX0_welcome_20 ?_
  refine r_wc_put_men (pc := 21) hk fl_X0_37 dX0_welcome_21 ?_
  refine r_aload_0 (pc := 24) dX0_welcome_24 ?_
  refine r_wc_get_tents (pc := 25) hk fl_X0_18 dX0_welcome_25 ?_
  refine r_iload_1 (pc := 28) dX0_welcome_28 ?_
  refine r_iload_2 (pc := 29) dX0_welcome_29 ?_
  refine r_wc_st_tents (pc := 30) hk (by omega) dX0_welcome_30 ?_
  refine r_vret (pc := 31) dX0_welcome_31 rfl rfl rfl
def frl (f : Nat → Int32) (m : Int32) : Nat → Nat → Int32
  | 0 => f
  | n + 1 => if frl f m n n = m then upd (frl f m n) n (-1) else frl f m n
theorem lp_X0_farewell {h h' : Wd} {k m : Nat} {c : Camp} (hk : k + 6 < 76) : ∀ n j, j + n = 64 → h' = wc h k (wc_s_claimers c (frl (wc_claimers c) (nI m) 64)) → WW mX0_farewell 28 [.ref k, .int (nI m), .int (nI j)] [] (wc h k (wc_s_claimers c (frl (wc_claimers c) (nI m) j))) none h' := by
  intro n
  induction n with
  | zero =>
    intro j hj e
    obtain rfl : j = 64 := by omega
    refine r_iload_2 (pc := 28) dX0_farewell_28 ?_
    refine r_bipush (pc := 29) 64 dX0_farewell_29 (by decide) ?_
    refine r_icmp_ge (pc := 31) 57 dX0_farewell_31 (by decide) (fun _ => ?_) (fun c31 => absurd (nI_le (a := 64) (b := 64) (by omega) (by omega)) (c31))
    refine r_vret (pc := 57) dX0_farewell_57 rfl rfl e.symm
  | succ n ih =>
    intro j hj e
    refine r_iload_2 (pc := 28) dX0_farewell_28 ?_
    refine r_bipush (pc := 29) 64 dX0_farewell_29 (by decide) ?_
    refine r_icmp_ge (pc := 31) 57 dX0_farewell_31 (by decide) (fun c31 => absurd c31 (nI_ge (a := j) (b := 64) (by omega) (by decide))) (fun _ => ?_)
    refine r_aload_0 (pc := 34) dX0_farewell_34 ?_
    refine r_wc_get_claimers (pc := 35) hk fl_X0_15 dX0_farewell_35 ?_
    refine r_iload_2 (pc := 38) dX0_farewell_38 ?_
    refine r_wc_ld_claimers (pc := 39) hk (by omega) dX0_farewell_39 ?_
    refine r_iload_1 (pc := 40) dX0_farewell_40 ?_
    refine r_icmp_ne (pc := 41) 51 dX0_farewell_41 (by decide) (fun c41 => ?_) (fun c41 => ?_)
    · refine r_inc_2 (pc := 51) dX0_farewell_51 rfl (by decide) ?_
      refine r_goto (pc := 54) 28 dX0_farewell_54 (by decide) ?_
      have c' : ¬ frl (wc_claimers c) (nI m) j j = nI m := c41
      exact (ih (j + 1) (by omega) e).w (by rw [frl, if_neg c'])
    · refine r_aload_0 (pc := 44) dX0_farewell_44 ?_
      refine r_wc_get_claimers (pc := 45) hk fl_X0_15 dX0_farewell_45 ?_
      refine r_iload_2 (pc := 48) dX0_farewell_48 ?_
      refine r_iconst (pc := 49) (-1) dX0_farewell_49 (by decide) ?_
      refine r_wc_st_claimers (pc := 50) hk (by omega) dX0_farewell_50 ?_
      refine r_inc_2 (pc := 51) dX0_farewell_51 rfl (by decide) ?_
      refine r_goto (pc := 54) 28 dX0_farewell_54 (by decide) ?_
      have c' : frl (wc_claimers c) (nI m) j j = nI m := c41
      exact (ih (j + 1) (by omega) e).w (by rw [frl, if_pos c']; rfl)
def frw (c : Camp) (m : Nat) : Camp := wc_s_claimers (wc_s_men (fgt c m) (wc_men c &&& (bW m ^^^ (-1)))) (frl (wc_claimers c) (nI m) 64)
theorem ct_X0_farewell {h : Wd} {k m : Nat} {c : Camp} (hk : k + 6 < 76) (hm : m < 6) : Ct mX0_farewell [.ref k, .int (nI m)] (wc h k c) none (wc h k (frw c m)) := by
  refine Ct.of (Z := List.replicate 1 .null) (by decide) (Nat.le_of_ble_eq_true rfl) (fun z hz => List.eq_of_mem_replicate hz) ?_
  show WW mX0_farewell 0 [.ref k, .int (nI m), .null] [] _ _ _
  refine r_iload_1 (pc := 0) dX0_farewell_0 ?_
  refine r_cSN1_1 (pc := 1) (ct_X6_isManNumber) cs_X6_isManNumber ⟨Nat.le_of_ble_eq_true rfl, Nat.le_of_ble_eq_true rfl⟩ (List.mem_of_getElem? (i := 2) rfl) dX0_farewell_1 rfl (Nat.le_of_ble_eq_true rfl) ?_
  refine r_if_eq (pc := 4) 57 dX0_farewell_4 (by decide) (fun c4 => absurd c4 (by rw [isM_n hm]; decide)) (fun _ => ?_)
  refine r_aload_0 (pc := 7) dX0_farewell_7 ?_
  refine r_iload_1 (pc := 8) dX0_farewell_8 ?_
  refine r_cV0_1 (pc := 9) (ct_X0_forgetMan hk hm) cv_X0_forgetMan ⟨Nat.le_of_ble_eq_true rfl, Nat.le_of_ble_eq_true rfl⟩ ml_X0_79 dX0_farewell_9 (by omega) (wc_o _ _ _) rfl rfl (Nat.le_of_ble_eq_true rfl) ?_
  refine r_aload_0 (pc := 12) dX0_farewell_12 ?_
  refine r_dup (pc := 13) dX0_farewell_13 rfl ?_
  refine r_wc_get_men (pc := 14) hk fl_X0_37 dX0_farewell_14 ?_
  refine r_iconst (pc := 17) 1 dX0_farewell_17 (by decide) ?_
  refine r_iload_1 (pc := 18) dX0_farewell_18 ?_
  refine r_ishl (pc := 19) dX0_farewell_19 ?_
  refine r_iconst (pc := 20) (-1) dX0_farewell_20 (by decide) ?_
  refine r_ixor (pc := 21) dX0_farewell_21 ?_
  refine r_iand (pc := 22) dX0_farewell_22 ?_
  refine r_wc_put_men (pc := 23) hk fl_X0_37 dX0_farewell_23 ?_
  refine r_iconst (pc := 26) 0 dX0_farewell_26 (by decide) ?_
  refine r_istore_2 (pc := 27) dX0_farewell_27 rfl (by decide) ?_
  exact (lp_X0_farewell (m := m) (c := wc_s_men (fgt c m) (wc_men c &&& (bW m ^^^ (-1)))) hk 64 0 rfl rfl)
def clB (f : Nat → Int32) (m : Int32) : Nat → Int64
  | 0 => 0
  | n + 1 => if f n = m then clB f m n ||| bL n else clB f m n
theorem clB_kb {f : Nat → Int32} {m : Int32} {j : Nat} (hj : j < 64) : ∀ n, n ≤ 64 → kb (clB f m n) j = (decide (j < n) && decide (f j = m))
  | 0, _ => by simp [clB, kb_0]
  | n + 1, hn => by
    have ih := clB_kb (f := f) (m := m) hj n (by omega)
    rw [clB]
    by_cases h : f n = m
    · rw [if_pos h, kb_or _ (by omega) hj, ih]
      by_cases e : j = n
      · subst e; simp [h]
      · have : (j < n + 1) ↔ j < n := by omega
        simp [e, this]
    · rw [if_neg h, ih]
      by_cases e : j = n
      · subst e; simp [h]
      · have : (j < n + 1) ↔ j < n := by omega
        simp [this]
theorem lp_X0_cellsClaimedBy {h : Wd} {k : Nat} {c : Camp} {m : Int32} (hk : k + 6 < 76) : ∀ n j, j + n = 64 → WW mX0_cellsClaimedBy 5 [.ref k, .int m, .long (clB (wc_claimers c) m j), .null, .int (nI j)] [] (wc h k c) (some (.long (clB (wc_claimers c) m 64))) (wc h k c) := by
  intro n
  induction n with
  | zero =>
    intro j hj
    obtain rfl : j = 64 := by omega
    refine r_iload_4 (pc := 5) dX0_cellsClaimedBy_5 ?_
    refine r_bipush (pc := 7) 64 dX0_cellsClaimedBy_7 (by decide) ?_
    refine r_icmp_ge (pc := 9) 36 dX0_cellsClaimedBy_9 (by decide) (fun _ => ?_) (fun c9 => absurd (nI_le (a := 64) (b := 64) (by omega) (by omega)) (c9))
    refine r_lload_2 (pc := 36) dX0_cellsClaimedBy_36 ?_
    refine r_lret (pc := 37) dX0_cellsClaimedBy_37 rfl (by first | rfl | simp_all [bI]) rfl
  | succ n ih =>
    intro j hj
    refine r_iload_4 (pc := 5) dX0_cellsClaimedBy_5 ?_
    refine r_bipush (pc := 7) 64 dX0_cellsClaimedBy_7 (by decide) ?_
    refine r_icmp_ge (pc := 9) 36 dX0_cellsClaimedBy_9 (by decide) (fun c9 => absurd c9 (nI_ge (a := j) (b := 64) (by omega) (by decide))) (fun _ => ?_)
    refine r_aload_0 (pc := 12) dX0_cellsClaimedBy_12 ?_
    refine r_wc_get_claimers (pc := 13) hk fl_X0_15 dX0_cellsClaimedBy_13 ?_
    refine r_iload_4 (pc := 16) dX0_cellsClaimedBy_16 ?_
    refine r_wc_ld_claimers (pc := 18) hk (by omega) dX0_cellsClaimedBy_18 ?_
    refine r_iload_1 (pc := 19) dX0_cellsClaimedBy_19 ?_
    refine r_icmp_ne (pc := 20) 30 dX0_cellsClaimedBy_20 (by decide) (fun c20 => ?_) (fun c20 => ?_)
    · refine r_inc_4 (pc := 30) dX0_cellsClaimedBy_30 rfl (by decide) ?_
      refine r_goto (pc := 33) 5 dX0_cellsClaimedBy_33 (by decide) ?_
      exact (ih (j + 1) (by omega)).L (by rw [clB, if_neg c20])
    · refine r_lload_2 (pc := 23) dX0_cellsClaimedBy_23 ?_
      refine r_lconst (pc := 24) 1 dX0_cellsClaimedBy_24 (by decide) ?_
      refine r_iload_4 (pc := 25) dX0_cellsClaimedBy_25 ?_
      refine r_lshl (pc := 27) dX0_cellsClaimedBy_27 ?_
      refine r_lor (pc := 28) dX0_cellsClaimedBy_28 ?_
      refine r_lstore_2 (pc := 29) dX0_cellsClaimedBy_29 rfl (by decide) ?_
      refine r_inc_4 (pc := 30) dX0_cellsClaimedBy_30 rfl (by decide) ?_
      refine r_goto (pc := 33) 5 dX0_cellsClaimedBy_33 (by decide) ?_
      exact (ih (j + 1) (by omega)).L (by rw [clB, if_pos c20]; rfl)
theorem ct_X0_cellsClaimedBy {h : Wd} {k : Nat} {c : Camp} {m : Int32} (hk : k + 6 < 76) : Ct mX0_cellsClaimedBy [.ref k, .int m] (wc h k c) (some (.long (clB (wc_claimers c) m 64))) (wc h k c) := by
  refine Ct.of (Z := List.replicate 3 .null) (by decide) (Nat.le_of_ble_eq_true rfl) (fun z hz => List.eq_of_mem_replicate hz) ?_
  show WW mX0_cellsClaimedBy 0 [.ref k, .int m, .null, .null, .null] [] _ _ _
  refine r_lconst (pc := 0) 0 dX0_cellsClaimedBy_0 (by decide) ?_
  refine r_lstore_2 (pc := 1) dX0_cellsClaimedBy_1 rfl (by decide) ?_
  refine r_iconst (pc := 2) 0 dX0_cellsClaimedBy_2 (by decide) ?_
  refine r_istore_4 (pc := 3) dX0_cellsClaimedBy_3 rfl (by decide) ?_
  exact lp_X0_cellsClaimedBy hk 64 0 rfl
def cntC (f : Nat → Int32) (m : Int32) : Nat := cnt (fun j => decide (f j = m)) 64
theorem ct_X0_countClaimedBy {h : Wd} {k : Nat} {c : Camp} {m : Int32} (hk : k + 6 < 76) : Ct mX0_countClaimedBy [.ref k, .int m] (wc h k c) (some (.int (nI (cntC (wc_claimers c) m)))) (wc h k c) := by
  refine Ct.of (Z := List.replicate 0 .null) (by decide) (Nat.le_of_ble_eq_true rfl) (fun z hz => List.eq_of_mem_replicate hz) ?_
  show WW mX0_countClaimedBy 0 [.ref k, .int m] [] _ _ _
  refine r_aload_0 (pc := 0) dX0_countClaimedBy_0 ?_
  refine r_iload_1 (pc := 1) dX0_countClaimedBy_1 ?_
  refine r_cV1_1 (pc := 2) (ct_X0_cellsClaimedBy hk) cv_X0_cellsClaimedBy ⟨Nat.le_of_ble_eq_true rfl, Nat.le_of_ble_eq_true rfl⟩ ml_X0_54 dX0_countClaimedBy_2 (by omega) (wc_o _ _ _) rfl rfl (Nat.le_of_ble_eq_true rfl) ?_
  refine r_cS1_1 (pc := 5) (ct_J13_bitCount_95d88) cs_J13_bitCount_95d88 ⟨Nat.le_of_ble_eq_true rfl, Nat.le_of_ble_eq_true rfl⟩ ml_X0_58 dX0_countClaimedBy_5 rfl (Nat.le_of_ble_eq_true rfl) ?_
  refine r_iret (pc := 8) dX0_countClaimedBy_8 rfl (by rw [cntC, cnt_cong (q := fun j => decide (wc_claimers c j = m)) (fun j hj => (clB_kb (f := wc_claimers c) (m := m) hj 64 (Nat.le_refl _)).trans (by simp [hj]))]) rfl
theorem ct_X0_countClaimed {h : Wd} {k : Nat} {c : Camp} (hk : k + 6 < 76) : Ct mX0_countClaimed [.ref k] (wc h k c) (some (.int (64 - nI (cntC (wc_claimers c) (-1))))) (wc h k c) := by
  refine Ct.of (Z := List.replicate 0 .null) (by decide) (Nat.le_of_ble_eq_true rfl) (fun z hz => List.eq_of_mem_replicate hz) ?_
  show WW mX0_countClaimed 0 [.ref k] [] _ _ _
  refine r_bipush (pc := 0) 64 dX0_countClaimed_0 (by decide) ?_
  refine r_aload_0 (pc := 2) dX0_countClaimed_2 ?_
  refine r_iconst (pc := 3) (-1) dX0_countClaimed_3 (by decide) ?_
  refine r_cV1_1 (pc := 4) (ct_X0_countClaimedBy hk) cv_X0_countClaimedBy ⟨Nat.le_of_ble_eq_true rfl, Nat.le_of_ble_eq_true rfl⟩ ml_X0_64 dX0_countClaimed_4 (by omega) (wc_o _ _ _) rfl rfl (Nat.le_of_ble_eq_true rfl) ?_
  refine r_isub (pc := 7) dX0_countClaimed_7 ?_
  refine r_iret (pc := 8) dX0_countClaimed_8 rfl (by first | rfl | simp_all [bI]) rfl
theorem lp_X0_allSalt {h : Wd} {k : Nat} {c : Camp} (hk : k + 6 < 76) : ∀ n j, j + n = 6 → WW mX0_allSalt 4 [.ref k, .int (isum (wc_salts c) j), .int (nI j)] [] (wc h k c) (some (.int (isum (wc_salts c) 6))) (wc h k c) := by
  intro n
  induction n with
  | zero =>
    intro j hj
    obtain rfl : j = 6 := by omega
    refine r_iload_2 (pc := 4) dX0_allSalt_4 ?_
    refine r_bipush (pc := 5) 6 dX0_allSalt_5 (by decide) ?_
    refine r_icmp_ge (pc := 7) 25 dX0_allSalt_7 (by decide) (fun _ => ?_) (fun c7 => absurd (nI_le (a := 6) (b := 6) (by omega) (by omega)) (c7))
    refine r_iload_1 (pc := 25) dX0_allSalt_25 ?_
    refine r_iret (pc := 26) dX0_allSalt_26 rfl (by first | rfl | simp_all [bI]) rfl
  | succ n ih =>
    intro j hj
    refine r_iload_2 (pc := 4) dX0_allSalt_4 ?_
    refine r_bipush (pc := 5) 6 dX0_allSalt_5 (by decide) ?_
    refine r_icmp_ge (pc := 7) 25 dX0_allSalt_7 (by decide) (fun c7 => absurd c7 (nI_ge (a := j) (b := 6) (by omega) (by decide))) (fun _ => ?_)
    refine r_iload_1 (pc := 10) dX0_allSalt_10 ?_
    refine r_aload_0 (pc := 11) dX0_allSalt_11 ?_
    refine r_wc_get_salts (pc := 12) hk fl_X0_21 dX0_allSalt_12 ?_
    refine r_iload_2 (pc := 15) dX0_allSalt_15 ?_
    refine r_wc_ld_salts (pc := 16) hk (by omega) dX0_allSalt_16 ?_
    refine r_iadd (pc := 17) dX0_allSalt_17 ?_
    refine r_istore_1 (pc := 18) dX0_allSalt_18 rfl (by decide) ?_
    refine r_inc_2 (pc := 19) dX0_allSalt_19 rfl (by decide) ?_
    refine r_goto (pc := 22) 4 dX0_allSalt_22 (by decide) ?_
    exact ih (j + 1) (by omega)
theorem ct_X0_allSalt {h : Wd} {k : Nat} {c : Camp} (hk : k + 6 < 76) : Ct mX0_allSalt [.ref k] (wc h k c) (some (.int (isum (wc_salts c) 6))) (wc h k c) := by
  refine Ct.of (Z := List.replicate 2 .null) (by decide) (Nat.le_of_ble_eq_true rfl) (fun z hz => List.eq_of_mem_replicate hz) ?_
  show WW mX0_allSalt 0 [.ref k, .null, .null] [] _ _ _
  refine r_iconst (pc := 0) 0 dX0_allSalt_0 (by decide) ?_
  refine r_istore_1 (pc := 1) dX0_allSalt_1 rfl (by decide) ?_
  refine r_iconst (pc := 2) 0 dX0_allSalt_2 (by decide) ?_
  refine r_istore_2 (pc := 3) dX0_allSalt_3 rfl (by decide) ?_
  exact lp_X0_allSalt hk 6 0 rfl
