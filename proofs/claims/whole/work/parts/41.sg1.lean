/-! SnoresGold: Memory; calls that need no weeks -/
theorem sXc {h : Wd} {S : SG} {p : Nat} (hp : p = 1 ∨ p = 2 ∨ p = 3) : wc (wx h S) (7 + 11 * p) (S.mem p).camp = wx h S := by
  rcases hp with rfl | rfl | rfl
  · exact sXc1
  · exact sXc2
  · exact sXc3
theorem uXc {h : Wd} {S : SG} {p : Nat} {c : Camp} (hp : p = 1 ∨ p = 2 ∨ p = 3) : wc (wx h S) (7 + 11 * p) c = wx h (S.sc p c) := by
  rcases hp with rfl | rfl | rfl
  · exact uXc1
  · exact uXc2
  · exact uXc3
theorem sXt {h : Wd} {S : SG} {p : Nat} (hp : p = 1 ∨ p = 2 ∨ p = 3) : wt (wx h S) (14 + 11 * p) (S.mem p).tales = wx h S := by
  rcases hp with rfl | rfl | rfl
  · exact sXt1
  · exact sXt2
  · exact sXt3
theorem uXt {h : Wd} {S : SG} {p : Nat} {c : Tales} (hp : p = 1 ∨ p = 2 ∨ p = 3) : wt (wx h S) (14 + 11 * p) c = wx h (S.st p c) := by
  rcases hp with rfl | rfl | rfl
  · exact uXt1
  · exact uXt2
  · exact uXt3
theorem sXg {h : Wd} {S : SG} {p : Nat} (hp : p = 1 ∨ p = 2 ∨ p = 3) : wg (wx h S) (17 + 11 * p) (S.mem p).sights = wx h S := by
  rcases hp with rfl | rfl | rfl
  · exact sXg1
  · exact sXg2
  · exact sXg3
theorem uXg {h : Wd} {S : SG} {p : Nat} {c : Sights} (hp : p = 1 ∨ p = 2 ∨ p = 3) : wg (wx h S) (17 + 11 * p) c = wx h (S.sg p c) := by
  rcases hp with rfl | rfl | rfl
  · exact uXg1
  · exact uXg2
  · exact uXg3
theorem oXc {h : Wd} {S : SG} {p : Nat} (hp : p = 1 ∨ p = 2 ∨ p = 3) : wx h S (7 + 11 * p) = .inr (0, wc_obj (7 + 11 * p) (S.mem p).camp) := by
  rcases hp with rfl | rfl | rfl <;> rfl
theorem oXt {h : Wd} {S : SG} {p : Nat} (hp : p = 1 ∨ p = 2 ∨ p = 3) : wx h S (14 + 11 * p) = .inr (4, wt_obj (14 + 11 * p) (S.mem p).tales) := by
  rcases hp with rfl | rfl | rfl <;> rfl
theorem oXg {h : Wd} {S : SG} {p : Nat} (hp : p = 1 ∨ p = 2 ∨ p = 3) : wx h S (17 + 11 * p) = .inr (3, wg_obj (17 + 11 * p) (S.mem p).sights) := by
  rcases hp with rfl | rfl | rfl <;> rfl
theorem oXm {h : Wd} {S : SG} {p : Nat} (hp : p = 1 ∨ p = 2 ∨ p = 3) : wx h S p = .inr (1, wxM p (S.mem p).kept) := by
  rcases hp with rfl | rfl | rfl <;> rfl
def cm1 (S : SG) (p p2 : Nat) : SG := S.sc p (cpC (S.mem p).camp (S.mem p2).camp)
def cm2 (S : SG) (p p2 : Nat) : SG := S.st p (cpT (S.mem p).tales (S.mem p2).tales)
def cm3 (S : SG) (p p2 : Nat) : SG := S.sg p (S.mem p2).sights
def cmm (S : SG) (p p2 : Nat) : SG := cm3 (cm2 (cm1 S p p2) p p2) p p2
theorem ct_X1_copyFrom {h : Wd} {S : SG} {p p2 : Nat} (hp : p = 1 ∨ p = 2 ∨ p = 3) (hp2 : p2 = 1 ∨ p2 = 2 ∨ p2 = 3) (hn : p ≠ p2) : Ct mX1_copyFrom [.ref p, .ref p2] (wx h S) none (wx h (cmm S p p2)) := by
  have c1 : ∀ S : SG, Ct mX0_copyFrom [.ref (7 + 11 * p), .ref (7 + 11 * p2)] (wx h S) none (wx h (cm1 S p p2)) := fun S => (ct_X0_copyFrom (by omega) (by omega) (by omega)).at (by rw [sXc hp2, sXc hp]) (by rw [sXc hp2, uXc hp]; rfl)
  have c2 : ∀ S : SG, Ct mX4_copyFrom [.ref (14 + 11 * p), .ref (14 + 11 * p2)] (wx h S) none (wx h (cm2 S p p2)) := fun S => (ct_X4_copyFrom (by omega) (by omega) (by omega)).at (by rw [sXt hp2, sXt hp]) (by rw [sXt hp2, uXt hp]; rfl)
  have c3 : ∀ S : SG, Ct mX3_copyFrom [.ref (17 + 11 * p), .ref (17 + 11 * p2)] (wx h S) none (wx h (cm3 S p p2)) := fun S => (ct_X3_copyFrom (by omega) (by omega) (by omega)).at (by rw [sXg hp2, sXg hp]) (by rw [sXg hp2, uXg hp]; rfl)
  refine Ct.of (Z := List.replicate 0 .null) (by decide) (Nat.le_of_ble_eq_true rfl) (fun z hz => List.eq_of_mem_replicate hz) ?_
  show WW mX1_copyFrom 0 [.ref p, .ref p2] [] _ _ _
  refine r_aload_0 (pc := 0) dX1_copyFrom_0 ?_
  refine r_f_X1_camp (pc := 1) hp fl_X1_10 dX1_copyFrom_1  ?_
  refine r_aload_1 (pc := 4) dX1_copyFrom_4 ?_
  refine r_f_X1_camp (pc := 5) hp2 fl_X1_10 dX1_copyFrom_5  ?_
  refine r_cV0_1 (pc := 8) (c1 _) cv_X0_copyFrom ⟨Nat.le_of_ble_eq_true rfl, Nat.le_of_ble_eq_true rfl⟩ ml_X1_30 dX1_copyFrom_8 (by omega) (oXc hp) rfl rfl (Nat.le_of_ble_eq_true rfl) ?_
  refine r_aload_0 (pc := 11) dX1_copyFrom_11 ?_
  refine r_f_X1_tales (pc := 12) hp fl_X1_19 dX1_copyFrom_12  ?_
  refine r_aload_1 (pc := 15) dX1_copyFrom_15 ?_
  refine r_f_X1_tales (pc := 16) hp2 fl_X1_19 dX1_copyFrom_16  ?_
  refine r_cV0_1 (pc := 19) (c2 _) cv_X4_copyFrom ⟨Nat.le_of_ble_eq_true rfl, Nat.le_of_ble_eq_true rfl⟩ ml_X1_34 dX1_copyFrom_19 (by omega) (oXt hp) rfl rfl (Nat.le_of_ble_eq_true rfl) ?_
  refine r_aload_0 (pc := 22) dX1_copyFrom_22 ?_
  refine r_f_X1_sights (pc := 23) hp fl_X1_26 dX1_copyFrom_23  ?_
  refine r_aload_1 (pc := 26) dX1_copyFrom_26 ?_
  refine r_f_X1_sights (pc := 27) hp2 fl_X1_26 dX1_copyFrom_27  ?_
  refine r_cV0_1 (pc := 30) (c3 _) cv_X3_copyFrom ⟨Nat.le_of_ble_eq_true rfl, Nat.le_of_ble_eq_true rfl⟩ ml_X1_37 dX1_copyFrom_30 (by omega) (oXg hp) rfl rfl (Nat.le_of_ble_eq_true rfl) ?_
  refine r_vret (pc := 33) dX1_copyFrom_33 rfl rfl rfl
theorem ct_X1_markKept {h : Wd} {S : SG} {p : Nat} (hp : p = 1 ∨ p = 2 ∨ p = 3) : Ct mX1_markKept [.ref p] (wx h S) none (wx h (S.sk p 1)) := by
  refine Ct.of (Z := List.replicate 0 .null) (by decide) (Nat.le_of_ble_eq_true rfl) (fun z hz => List.eq_of_mem_replicate hz) ?_
  show WW mX1_markKept 0 [.ref p] [] _ _ _
  refine r_aload_0 (pc := 0) dX1_markKept_0 ?_
  refine r_iconst (pc := 1) 1 dX1_markKept_1 (by decide) ?_
  refine r_put_X1_kept (pc := 2) hp fl_X1_40 dX1_markKept_2 rfl rfl ?_
  refine r_vret (pc := 5) dX1_markKept_5 rfl rfl rfl
theorem ct_X1_isKept {h : Wd} {S : SG} {p : Nat} {b : Bool} (hp : p = 1 ∨ p = 2 ∨ p = 3) (hb : (S.mem p).kept = bI b) : Ct mX1_isKept [.ref p] (wx h S) (some (.int (bI b))) (wx h S) := by
  refine Ct.of (Z := List.replicate 0 .null) (by decide) (Nat.le_of_ble_eq_true rfl) (fun z hz => List.eq_of_mem_replicate hz) ?_
  show WW mX1_isKept 0 [.ref p] [] _ _ _
  refine r_aload_0 (pc := 0) dX1_isKept_0 ?_
  refine r_get_X1_kept (pc := 1) hp fl_X1_40 dX1_isKept_1  ?_
  refine r_zret (pc := 4) dX1_isKept_4 rfl (by rw [hb]; exact bI_nar b) (by rw [hb]) rfl
theorem ct_X6_goldB {h : Wd} {S : SG} {x v : Int32} (hb : (isC x && inR v 0 9) = false) : Ct mX6_gold [.ref 0, .int x, .int v] (wx h S) (some (.int (-2))) (wx h S) := by
  refine Ct.of (Z := List.replicate 1 .null) (by decide) (Nat.le_of_ble_eq_true rfl) (fun z hz => List.eq_of_mem_replicate hz) ?_
  show WW mX6_gold 0 [.ref 0, .int x, .int v, .null] [] _ _ _
  refine r_iload_1 (pc := 0) dX6_gold_0 ?_
  refine r_cS1_1 (pc := 1) (ct_X6_isCell) cs_X6_isCell ⟨Nat.le_of_ble_eq_true rfl, Nat.le_of_ble_eq_true rfl⟩ ml_X6_56 dX6_gold_1 rfl (Nat.le_of_ble_eq_true rfl) ?_
  refine r_if_eq (pc := 4) 17 dX6_gold_4 (by decide) (fun c4 => ?_) (fun c4 => ?_)
  · refine r_bipush (pc := 17) (-2) dX6_gold_17 (by decide) ?_
    refine r_iret (pc := 19) dX6_gold_19 rfl (by first | rfl | simp_all [bI]) rfl
  · refine r_iload_2 (pc := 7) dX6_gold_7 ?_
    refine r_iconst (pc := 8) 0 dX6_gold_8 (by decide) ?_
    refine r_bipush (pc := 9) 9 dX6_gold_9 (by decide) ?_
    refine r_cS1_3 (pc := 11) (ct_X6_isWithin) cs_X6_isWithin ⟨Nat.le_of_ble_eq_true rfl, Nat.le_of_ble_eq_true rfl⟩ ml_X6_60 dX6_gold_11 rfl (Nat.le_of_ble_eq_true rfl) ?_
    refine r_if_ne (pc := 14) 20 dX6_gold_14 (by decide) (fun c14 => ?_) (fun c14 => ?_)
    · exact absurd hb (by rw [bI_n0] at c4 c14; rw [c4, c14]; decide)
    · refine r_bipush (pc := 17) (-2) dX6_gold_17 (by decide) ?_
      refine r_iret (pc := 19) dX6_gold_19 rfl (by first | rfl | simp_all [bI]) rfl
theorem ct_X6_gold {h : Wd} {S : SG} {j : Nat} {v : Int32} (hj : j < 64) (hv : inR v 0 9 = true) : Ct mX6_gold [.ref 0, .int (nI j), .int v] (wx h S) (some (.int (wc_goldOn S.now.camp j))) (wx h (S.sc 1 (wc_s_goldOn S.now.camp (upd (wc_goldOn S.now.camp) j v)))) := by
  refine Ct.of (Z := List.replicate 1 .null) (by decide) (Nat.le_of_ble_eq_true rfl) (fun z hz => List.eq_of_mem_replicate hz) ?_
  show WW mX6_gold 0 [.ref 0, .int (nI j), .int v, .null] [] _ _ _
  refine r_iload_1 (pc := 0) dX6_gold_0 ?_
  refine r_cS1_1 (pc := 1) (ct_X6_isCell) cs_X6_isCell ⟨Nat.le_of_ble_eq_true rfl, Nat.le_of_ble_eq_true rfl⟩ ml_X6_56 dX6_gold_1 rfl (Nat.le_of_ble_eq_true rfl) ?_
  refine r_if_eq (pc := 4) 17 dX6_gold_4 (by decide) (fun c4 => absurd c4 (by rw [isC_n hj]; decide)) (fun _ => ?_)
  refine r_iload_2 (pc := 7) dX6_gold_7 ?_
  refine r_iconst (pc := 8) 0 dX6_gold_8 (by decide) ?_
  refine r_bipush (pc := 9) 9 dX6_gold_9 (by decide) ?_
  refine r_cS1_3 (pc := 11) (ct_X6_isWithin) cs_X6_isWithin ⟨Nat.le_of_ble_eq_true rfl, Nat.le_of_ble_eq_true rfl⟩ ml_X6_60 dX6_gold_11 rfl (Nat.le_of_ble_eq_true rfl) ?_
  refine r_if_ne (pc := 14) 20 dX6_gold_14 (by decide) (fun _ => ?_) (fun c14 => absurd c14 (by rw [hv]; decide))
  refine r_aload_0 (pc := 20) dX6_gold_20 ?_
  refine r_f_X6_now (pc := 21) fl_X6_10 dX6_gold_21 ?_
  refine r_g_X1_camp (pc := 24) (List.mem_of_getElem? (i := 0) rfl) dX6_gold_24 ?_
  refine r_iload_1 (pc := 27) dX6_gold_27 ?_
  refine r_cV1_1 (pc := 28) ((ct_X0_goldOf (by decide) hj).at sXc1 sXc1) cv_X0_goldOf ⟨Nat.le_of_ble_eq_true rfl, Nat.le_of_ble_eq_true rfl⟩ ml_X6_67 dX6_gold_28 (by decide) rfl rfl rfl (Nat.le_of_ble_eq_true rfl) ?_
  refine r_istore_3 (pc := 31) dX6_gold_31 rfl (by decide) ?_
  refine r_aload_0 (pc := 32) dX6_gold_32 ?_
  refine r_f_X6_now (pc := 33) fl_X6_10 dX6_gold_33 ?_
  refine r_g_X1_camp (pc := 36) (List.mem_of_getElem? (i := 0) rfl) dX6_gold_36 ?_
  refine r_iload_1 (pc := 39) dX6_gold_39 ?_
  refine r_iload_2 (pc := 40) dX6_gold_40 ?_
  refine r_cV0_2 (pc := 41) ((ct_X0_putGold (by decide) hj).at sXc1 uXc1) cv_X0_putGold ⟨Nat.le_of_ble_eq_true rfl, Nat.le_of_ble_eq_true rfl⟩ ml_X6_71 dX6_gold_41 (by decide) rfl rfl rfl (Nat.le_of_ble_eq_true rfl) ?_
  refine r_iload_3 (pc := 44) dX6_gold_44 ?_
  refine r_iret (pc := 45) dX6_gold_45 rfl (by first | rfl | simp_all [bI]) rfl
theorem ct_X6_manB {h : Wd} {S : SG} {x y : Int32} (hb : isM x = false) : Ct mX6_man [.ref 0, .int x, .int y] (wx h S) (some (.int (-1))) (wx h S) := by
  refine Ct.of (Z := List.replicate 0 .null) (by decide) (Nat.le_of_ble_eq_true rfl) (fun z hz => List.eq_of_mem_replicate hz) ?_
  show WW mX6_man 0 [.ref 0, .int x, .int y] [] _ _ _
  refine r_iload_1 (pc := 0) dX6_man_0 ?_
  refine r_cS1_1 (pc := 1) (ct_X6_isManNumber) cs_X6_isManNumber ⟨Nat.le_of_ble_eq_true rfl, Nat.le_of_ble_eq_true rfl⟩ ml_X6_75 dX6_man_1 rfl (Nat.le_of_ble_eq_true rfl) ?_
  refine r_if_ne (pc := 4) 9 dX6_man_4 (by decide) (fun c4 => absurd (by rw [hb]; rfl) c4) (fun _ => ?_)
  refine r_iconst (pc := 7) (-1) dX6_man_7 (by decide) ?_
  refine r_iret (pc := 8) dX6_man_8 rfl (by first | rfl | simp_all [bI]) rfl
theorem ct_X6_manO {h : Wd} {S : SG} {x y : Int32} (hx : isM x = true) (hb : isC y = false) : Ct mX6_man [.ref 0, .int x, .int y] (wx h S) (some (.int (-2))) (wx h S) := by
  refine Ct.of (Z := List.replicate 0 .null) (by decide) (Nat.le_of_ble_eq_true rfl) (fun z hz => List.eq_of_mem_replicate hz) ?_
  show WW mX6_man 0 [.ref 0, .int x, .int y] [] _ _ _
  refine r_iload_1 (pc := 0) dX6_man_0 ?_
  refine r_cS1_1 (pc := 1) (ct_X6_isManNumber) cs_X6_isManNumber ⟨Nat.le_of_ble_eq_true rfl, Nat.le_of_ble_eq_true rfl⟩ ml_X6_75 dX6_man_1 rfl (Nat.le_of_ble_eq_true rfl) ?_
  refine r_if_ne (pc := 4) 9 dX6_man_4 (by decide) (fun _ => ?_) (fun c4 => absurd c4 (by rw [hx]; decide))
  refine r_iload_2 (pc := 9) dX6_man_9 ?_
  refine r_cS1_1 (pc := 10) (ct_X6_isCell) cs_X6_isCell ⟨Nat.le_of_ble_eq_true rfl, Nat.le_of_ble_eq_true rfl⟩ ml_X6_56 dX6_man_10 rfl (Nat.le_of_ble_eq_true rfl) ?_
  refine r_if_ne (pc := 13) 19 dX6_man_13 (by decide) (fun c13 => absurd (by rw [hb]; rfl) c13) (fun _ => ?_)
  refine r_bipush (pc := 16) (-2) dX6_man_16 (by decide) ?_
  refine r_iret (pc := 18) dX6_man_18 rfl (by first | rfl | simp_all [bI]) rfl
def wlc (c : Camp) (m : Nat) (x : Int32) : Camp := wc_s_tents (wc_s_men (fgt c m) (wc_men c ||| bW m)) (upd (wc_tents (fgt c m)) m x)
theorem ct_X6_man {h : Wd} {S : SG} {m j : Nat} (hm : m < 6) (hj : j < 64) : Ct mX6_man [.ref 0, .int (nI m), .int (nI j)] (wx h S) (some (.int (nI (cnt (bt (wc_men S.now.camp ||| bW m)) 32)))) (wx h (S.sc 1 (wlc S.now.camp m (nI j)))) := by
  refine Ct.of (Z := List.replicate 0 .null) (by decide) (Nat.le_of_ble_eq_true rfl) (fun z hz => List.eq_of_mem_replicate hz) ?_
  show WW mX6_man 0 [.ref 0, .int (nI m), .int (nI j)] [] _ _ _
  refine r_iload_1 (pc := 0) dX6_man_0 ?_
  refine r_cS1_1 (pc := 1) (ct_X6_isManNumber) cs_X6_isManNumber ⟨Nat.le_of_ble_eq_true rfl, Nat.le_of_ble_eq_true rfl⟩ ml_X6_75 dX6_man_1 rfl (Nat.le_of_ble_eq_true rfl) ?_
  refine r_if_ne (pc := 4) 9 dX6_man_4 (by decide) (fun _ => ?_) (fun c4 => absurd c4 (by rw [isM_n hm]; decide))
  refine r_iload_2 (pc := 9) dX6_man_9 ?_
  refine r_cS1_1 (pc := 10) (ct_X6_isCell) cs_X6_isCell ⟨Nat.le_of_ble_eq_true rfl, Nat.le_of_ble_eq_true rfl⟩ ml_X6_56 dX6_man_10 rfl (Nat.le_of_ble_eq_true rfl) ?_
  refine r_if_ne (pc := 13) 19 dX6_man_13 (by decide) (fun _ => ?_) (fun c13 => absurd c13 (by rw [isC_n hj]; decide))
  refine r_aload_0 (pc := 19) dX6_man_19 ?_
  refine r_f_X6_now (pc := 20) fl_X6_10 dX6_man_20 ?_
  refine r_g_X1_camp (pc := 23) (List.mem_of_getElem? (i := 0) rfl) dX6_man_23 ?_
  refine r_iload_1 (pc := 26) dX6_man_26 ?_
  refine r_iload_2 (pc := 27) dX6_man_27 ?_
  refine r_cV0_2 (pc := 28) ((ct_X0_welcome (by decide) hm).at sXc1 uXc1) cv_X0_welcome ⟨Nat.le_of_ble_eq_true rfl, Nat.le_of_ble_eq_true rfl⟩ ml_X6_78 dX6_man_28 (by decide) rfl rfl rfl (Nat.le_of_ble_eq_true rfl) ?_
  refine r_aload_0 (pc := 31) dX6_man_31 ?_
  refine r_f_X6_now (pc := 32) fl_X6_10 dX6_man_32 ?_
  refine r_g_X1_camp (pc := 35) (List.mem_of_getElem? (i := 0) rfl) dX6_man_35 ?_
  refine r_cV1_0 (pc := 38) ((ct_X0_countMen (by decide)).at sXc1 sXc1) cv_X0_countMen ⟨Nat.le_of_ble_eq_true rfl, Nat.le_of_ble_eq_true rfl⟩ ml_X6_81 dX6_man_38 (by decide) rfl rfl rfl (Nat.le_of_ble_eq_true rfl) ?_
  refine r_iret (pc := 41) dX6_man_41 rfl (by first | rfl | simp_all [bI]) rfl
theorem ct_X6_leaveB {h : Wd} {S : SG} {x : Int32} (hb : hasB (wc_men S.now.camp) x = false) : Ct mX6_leave [.ref 0, .int x] (wx h S) (some (.int (-1))) (wx h S) := by
  refine Ct.of (Z := List.replicate 0 .null) (by decide) (Nat.le_of_ble_eq_true rfl) (fun z hz => List.eq_of_mem_replicate hz) ?_
  show WW mX6_leave 0 [.ref 0, .int x] [] _ _ _
  refine r_aload_0 (pc := 0) dX6_leave_0 ?_
  refine r_f_X6_now (pc := 1) fl_X6_10 dX6_leave_1 ?_
  refine r_g_X1_camp (pc := 4) (List.mem_of_getElem? (i := 0) rfl) dX6_leave_4 ?_
  refine r_iload_1 (pc := 7) dX6_leave_7 ?_
  refine r_cV1_1 (pc := 8) ((ct_X0_isThere (by decide)).at sXc1 sXc1) cv_X0_isThere ⟨Nat.le_of_ble_eq_true rfl, Nat.le_of_ble_eq_true rfl⟩ ml_X6_85 dX6_leave_8 (by decide) rfl rfl rfl (Nat.le_of_ble_eq_true rfl) ?_
  refine r_if_ne (pc := 11) 16 dX6_leave_11 (by decide) (fun c11 => absurd (by rw [hb]; rfl) c11) (fun _ => ?_)
  refine r_iconst (pc := 14) (-1) dX6_leave_14 (by decide) ?_
  refine r_iret (pc := 15) dX6_leave_15 rfl (by first | rfl | simp_all [bI]) rfl
theorem ct_X6_leave {h : Wd} {S : SG} {m : Nat} (hm : m < 6) (hb : hasB (wc_men S.now.camp) (nI m) = true) : Ct mX6_leave [.ref 0, .int (nI m)] (wx h S) (some (.int (nI (cnt (bt (wc_men S.now.camp &&& (bW m ^^^ (-1)))) 32)))) (wx h (S.sc 1 (frw S.now.camp m))) := by
  refine Ct.of (Z := List.replicate 0 .null) (by decide) (Nat.le_of_ble_eq_true rfl) (fun z hz => List.eq_of_mem_replicate hz) ?_
  show WW mX6_leave 0 [.ref 0, .int (nI m)] [] _ _ _
  refine r_aload_0 (pc := 0) dX6_leave_0 ?_
  refine r_f_X6_now (pc := 1) fl_X6_10 dX6_leave_1 ?_
  refine r_g_X1_camp (pc := 4) (List.mem_of_getElem? (i := 0) rfl) dX6_leave_4 ?_
  refine r_iload_1 (pc := 7) dX6_leave_7 ?_
  refine r_cV1_1 (pc := 8) ((ct_X0_isThere (by decide)).at sXc1 sXc1) cv_X0_isThere ⟨Nat.le_of_ble_eq_true rfl, Nat.le_of_ble_eq_true rfl⟩ ml_X6_85 dX6_leave_8 (by decide) rfl rfl rfl (Nat.le_of_ble_eq_true rfl) ?_
  refine r_if_ne (pc := 11) 16 dX6_leave_11 (by decide) (fun _ => ?_) (fun c11 => absurd c11 (by rw [hb]; decide))
  refine r_aload_0 (pc := 16) dX6_leave_16 ?_
  refine r_f_X6_now (pc := 17) fl_X6_10 dX6_leave_17 ?_
  refine r_g_X1_camp (pc := 20) (List.mem_of_getElem? (i := 0) rfl) dX6_leave_20 ?_
  refine r_iload_1 (pc := 23) dX6_leave_23 ?_
  refine r_cV0_1 (pc := 24) ((ct_X0_farewell (by decide) hm).at sXc1 uXc1) cv_X0_farewell ⟨Nat.le_of_ble_eq_true rfl, Nat.le_of_ble_eq_true rfl⟩ ml_X6_88 dX6_leave_24 (by decide) rfl rfl rfl (Nat.le_of_ble_eq_true rfl) ?_
  refine r_aload_0 (pc := 27) dX6_leave_27 ?_
  refine r_f_X6_now (pc := 28) fl_X6_10 dX6_leave_28 ?_
  refine r_g_X1_camp (pc := 31) (List.mem_of_getElem? (i := 0) rfl) dX6_leave_31 ?_
  refine r_cV1_0 (pc := 34) ((ct_X0_countMen (by decide)).at sXc1 sXc1) cv_X0_countMen ⟨Nat.le_of_ble_eq_true rfl, Nat.le_of_ble_eq_true rfl⟩ ml_X6_81 dX6_leave_34 (by decide) rfl rfl rfl (Nat.le_of_ble_eq_true rfl) ?_
  refine r_iret (pc := 37) dX6_leave_37 rfl (by first | rfl | simp_all [bI]) rfl
theorem ct_X6_knowB {h : Wd} {S : SG} {x y b : Int32} (hb : hasB (wc_men S.now.camp) x = false) : Ct mX6_know [.ref 0, .int x, .int y, .int b] (wx h S) (some (.int (-1))) (wx h S) := by
  refine Ct.of (Z := List.replicate 0 .null) (by decide) (Nat.le_of_ble_eq_true rfl) (fun z hz => List.eq_of_mem_replicate hz) ?_
  show WW mX6_know 0 [.ref 0, .int x, .int y, .int b] [] _ _ _
  refine r_aload_0 (pc := 0) dX6_know_0 ?_
  refine r_f_X6_now (pc := 1) fl_X6_10 dX6_know_1 ?_
  refine r_g_X1_camp (pc := 4) (List.mem_of_getElem? (i := 0) rfl) dX6_know_4 ?_
  refine r_iload_1 (pc := 7) dX6_know_7 ?_
  refine r_cV1_1 (pc := 8) ((ct_X0_isThere (by decide)).at sXc1 sXc1) cv_X0_isThere ⟨Nat.le_of_ble_eq_true rfl, Nat.le_of_ble_eq_true rfl⟩ ml_X6_85 dX6_know_8 (by decide) rfl rfl rfl (Nat.le_of_ble_eq_true rfl) ?_
  refine r_if_ne (pc := 11) 16 dX6_know_11 (by decide) (fun c11 => absurd (by rw [hb]; rfl) c11) (fun _ => ?_)
  refine r_iconst (pc := 14) (-1) dX6_know_14 (by decide) ?_
  refine r_iret (pc := 15) dX6_know_15 rfl (by first | rfl | simp_all [bI]) rfl
theorem ct_X6_knowO {h : Wd} {S : SG} {x y b : Int32} (hb : hasB (wc_men S.now.camp) x = true) (hc : isC y = false) : Ct mX6_know [.ref 0, .int x, .int y, .int b] (wx h S) (some (.int (-2))) (wx h S) := by
  refine Ct.of (Z := List.replicate 0 .null) (by decide) (Nat.le_of_ble_eq_true rfl) (fun z hz => List.eq_of_mem_replicate hz) ?_
  show WW mX6_know 0 [.ref 0, .int x, .int y, .int b] [] _ _ _
  refine r_aload_0 (pc := 0) dX6_know_0 ?_
  refine r_f_X6_now (pc := 1) fl_X6_10 dX6_know_1 ?_
  refine r_g_X1_camp (pc := 4) (List.mem_of_getElem? (i := 0) rfl) dX6_know_4 ?_
  refine r_iload_1 (pc := 7) dX6_know_7 ?_
  refine r_cV1_1 (pc := 8) ((ct_X0_isThere (by decide)).at sXc1 sXc1) cv_X0_isThere ⟨Nat.le_of_ble_eq_true rfl, Nat.le_of_ble_eq_true rfl⟩ ml_X6_85 dX6_know_8 (by decide) rfl rfl rfl (Nat.le_of_ble_eq_true rfl) ?_
  refine r_if_ne (pc := 11) 16 dX6_know_11 (by decide) (fun _ => ?_) (fun c11 => absurd c11 (by rw [hb]; decide))
  refine r_iload_2 (pc := 16) dX6_know_16 ?_
  refine r_cS1_1 (pc := 17) (ct_X6_isCell) cs_X6_isCell ⟨Nat.le_of_ble_eq_true rfl, Nat.le_of_ble_eq_true rfl⟩ ml_X6_56 dX6_know_17 rfl (Nat.le_of_ble_eq_true rfl) ?_
  refine r_if_ne (pc := 20) 26 dX6_know_20 (by decide) (fun c20 => absurd (by rw [hc]; rfl) c20) (fun _ => ?_)
  refine r_bipush (pc := 23) (-2) dX6_know_23 (by decide) ?_
  refine r_iret (pc := 25) dX6_know_25 rfl (by first | rfl | simp_all [bI]) rfl
theorem ct_X6_know {h : Wd} {S : SG} {m j : Nat} {b : Int32} (hm : m < 6) (hb : hasB (wc_men S.now.camp) (nI m) = true) (hj : j < 64) : Ct mX6_know [.ref 0, .int (nI m), .int (nI j), .int b] (wx h S) (some (.int (nI (cnt (kb (wc_known (stK S.now.camp m j (!decide (b = 0))) m)) 64)))) (wx h (S.sc 1 (stK S.now.camp m j (!decide (b = 0))))) := by
  refine Ct.of (Z := List.replicate 0 .null) (by decide) (Nat.le_of_ble_eq_true rfl) (fun z hz => List.eq_of_mem_replicate hz) ?_
  show WW mX6_know 0 [.ref 0, .int (nI m), .int (nI j), .int b] [] _ _ _
  refine r_aload_0 (pc := 0) dX6_know_0 ?_
  refine r_f_X6_now (pc := 1) fl_X6_10 dX6_know_1 ?_
  refine r_g_X1_camp (pc := 4) (List.mem_of_getElem? (i := 0) rfl) dX6_know_4 ?_
  refine r_iload_1 (pc := 7) dX6_know_7 ?_
  refine r_cV1_1 (pc := 8) ((ct_X0_isThere (by decide)).at sXc1 sXc1) cv_X0_isThere ⟨Nat.le_of_ble_eq_true rfl, Nat.le_of_ble_eq_true rfl⟩ ml_X6_85 dX6_know_8 (by decide) rfl rfl rfl (Nat.le_of_ble_eq_true rfl) ?_
  refine r_if_ne (pc := 11) 16 dX6_know_11 (by decide) (fun _ => ?_) (fun c11 => absurd c11 (by rw [hb]; decide))
  refine r_iload_2 (pc := 16) dX6_know_16 ?_
  refine r_cS1_1 (pc := 17) (ct_X6_isCell) cs_X6_isCell ⟨Nat.le_of_ble_eq_true rfl, Nat.le_of_ble_eq_true rfl⟩ ml_X6_56 dX6_know_17 rfl (Nat.le_of_ble_eq_true rfl) ?_
  refine r_if_ne (pc := 20) 26 dX6_know_20 (by decide) (fun _ => ?_) (fun c20 => absurd c20 (by rw [isC_n hj]; decide))
  refine r_aload_0 (pc := 26) dX6_know_26 ?_
  refine r_f_X6_now (pc := 27) fl_X6_10 dX6_know_27 ?_
  refine r_g_X1_camp (pc := 30) (List.mem_of_getElem? (i := 0) rfl) dX6_know_30 ?_
  refine r_iload_1 (pc := 33) dX6_know_33 ?_
  refine r_iload_2 (pc := 34) dX6_know_34 ?_
  refine r_iload_3 (pc := 35) dX6_know_35 ?_
  refine r_cV0_3 (pc := 36) ((ct_X0_setKnown (by decide) hm hj).at sXc1 uXc1) cv_X0_setKnown ⟨Nat.le_of_ble_eq_true rfl, Nat.le_of_ble_eq_true rfl⟩ ml_X6_92 dX6_know_36 (by decide) rfl rfl rfl (Nat.le_of_ble_eq_true rfl) ?_
  refine r_aload_0 (pc := 39) dX6_know_39 ?_
  refine r_f_X6_now (pc := 40) fl_X6_10 dX6_know_40 ?_
  refine r_g_X1_camp (pc := 43) (List.mem_of_getElem? (i := 0) rfl) dX6_know_43 ?_
  refine r_iload_1 (pc := 46) dX6_know_46 ?_
  refine r_cV1_1 (pc := 47) ((ct_X0_knownTo (by decide) hm).at sXc1 sXc1) cv_X0_knownTo ⟨Nat.le_of_ble_eq_true rfl, Nat.le_of_ble_eq_true rfl⟩ ml_X6_96 dX6_know_47 (by decide) rfl rfl rfl (Nat.le_of_ble_eq_true rfl) ?_
  refine r_cS1_1 (pc := 50) (ct_J13_bitCount_95d88) cs_J13_bitCount_95d88 ⟨Nat.le_of_ble_eq_true rfl, Nat.le_of_ble_eq_true rfl⟩ ml_X6_100 dX6_know_50 rfl (Nat.le_of_ble_eq_true rfl) ?_
  refine r_iret (pc := 53) dX6_know_53 rfl (by first | rfl | simp_all [bI]) rfl
theorem ct_X6_claimB {h : Wd} {S : SG} {x y : Int32} (h1 : ¬ y = -1) (hb : hasB (wc_men S.now.camp) y = false) : Ct mX6_claim [.ref 0, .int x, .int y] (wx h S) (some (.int (-1))) (wx h S) := by
  refine Ct.of (Z := List.replicate 0 .null) (by decide) (Nat.le_of_ble_eq_true rfl) (fun z hz => List.eq_of_mem_replicate hz) ?_
  show WW mX6_claim 0 [.ref 0, .int x, .int y] [] _ _ _
  refine r_iload_2 (pc := 0) dX6_claim_0 ?_
  refine r_iconst (pc := 1) (-1) dX6_claim_1 (by decide) ?_
  refine r_icmp_eq (pc := 2) 21 dX6_claim_2 (by decide) (fun c2 => absurd c2 (h1)) (fun _ => ?_)
  refine r_aload_0 (pc := 5) dX6_claim_5 ?_
  refine r_f_X6_now (pc := 6) fl_X6_10 dX6_claim_6 ?_
  refine r_g_X1_camp (pc := 9) (List.mem_of_getElem? (i := 0) rfl) dX6_claim_9 ?_
  refine r_iload_2 (pc := 12) dX6_claim_12 ?_
  refine r_cV1_1 (pc := 13) ((ct_X0_isThere (by decide)).at sXc1 sXc1) cv_X0_isThere ⟨Nat.le_of_ble_eq_true rfl, Nat.le_of_ble_eq_true rfl⟩ ml_X6_85 dX6_claim_13 (by decide) rfl rfl rfl (Nat.le_of_ble_eq_true rfl) ?_
  refine r_if_ne (pc := 16) 21 dX6_claim_16 (by decide) (fun c16 => absurd (by rw [hb]; rfl) c16) (fun _ => ?_)
  refine r_iconst (pc := 19) (-1) dX6_claim_19 (by decide) ?_
  refine r_iret (pc := 20) dX6_claim_20 rfl (by first | rfl | simp_all [bI]) rfl
theorem ct_X6_claimO {h : Wd} {S : SG} {x y : Int32} (h1 : y = -1 ∨ hasB (wc_men S.now.camp) y = true) (hc : isC x = false) : Ct mX6_claim [.ref 0, .int x, .int y] (wx h S) (some (.int (-2))) (wx h S) := by
  refine Ct.of (Z := List.replicate 0 .null) (by decide) (Nat.le_of_ble_eq_true rfl) (fun z hz => List.eq_of_mem_replicate hz) ?_
  show WW mX6_claim 0 [.ref 0, .int x, .int y] [] _ _ _
  refine r_iload_2 (pc := 0) dX6_claim_0 ?_
  refine r_iconst (pc := 1) (-1) dX6_claim_1 (by decide) ?_
  refine r_icmp_eq (pc := 2) 21 dX6_claim_2 (by decide) (fun c2 => ?_) (fun c2 => ?_)
  · refine r_iload_1 (pc := 21) dX6_claim_21 ?_
    refine r_cS1_1 (pc := 22) (ct_X6_isCell) cs_X6_isCell ⟨Nat.le_of_ble_eq_true rfl, Nat.le_of_ble_eq_true rfl⟩ ml_X6_56 dX6_claim_22 rfl (Nat.le_of_ble_eq_true rfl) ?_
    refine r_if_ne (pc := 25) 31 dX6_claim_25 (by decide) (fun c25 => absurd (by rw [hc]; rfl) c25) (fun _ => ?_)
    refine r_bipush (pc := 28) (-2) dX6_claim_28 (by decide) ?_
    refine r_iret (pc := 30) dX6_claim_30 rfl (by first | rfl | simp_all [bI]) rfl
  · refine r_aload_0 (pc := 5) dX6_claim_5 ?_
    refine r_f_X6_now (pc := 6) fl_X6_10 dX6_claim_6 ?_
    refine r_g_X1_camp (pc := 9) (List.mem_of_getElem? (i := 0) rfl) dX6_claim_9 ?_
    refine r_iload_2 (pc := 12) dX6_claim_12 ?_
    refine r_cV1_1 (pc := 13) ((ct_X0_isThere (by decide)).at sXc1 sXc1) cv_X0_isThere ⟨Nat.le_of_ble_eq_true rfl, Nat.le_of_ble_eq_true rfl⟩ ml_X6_85 dX6_claim_13 (by decide) rfl rfl rfl (Nat.le_of_ble_eq_true rfl) ?_
    refine r_if_ne (pc := 16) 21 dX6_claim_16 (by decide) (fun _ => ?_) (fun c16 => absurd c16 (by rw [h1.resolve_left c2]; decide))
    refine r_iload_1 (pc := 21) dX6_claim_21 ?_
    refine r_cS1_1 (pc := 22) (ct_X6_isCell) cs_X6_isCell ⟨Nat.le_of_ble_eq_true rfl, Nat.le_of_ble_eq_true rfl⟩ ml_X6_56 dX6_claim_22 rfl (Nat.le_of_ble_eq_true rfl) ?_
    refine r_if_ne (pc := 25) 31 dX6_claim_25 (by decide) (fun c25 => absurd (by rw [hc]; rfl) c25) (fun _ => ?_)
    refine r_bipush (pc := 28) (-2) dX6_claim_28 (by decide) ?_
    refine r_iret (pc := 30) dX6_claim_30 rfl (by first | rfl | simp_all [bI]) rfl
theorem ct_X6_claim {h : Wd} {S : SG} {j : Nat} {y : Int32} (h1 : y = -1 ∨ hasB (wc_men S.now.camp) y = true) (hj : j < 64) : Ct mX6_claim [.ref 0, .int (nI j), .int y] (wx h S) (some (.int (64 - nI (cntC (upd (wc_claimers S.now.camp) j y) (-1))))) (wx h (S.sc 1 (wc_s_claimers S.now.camp (upd (wc_claimers S.now.camp) j y)))) := by
  refine Ct.of (Z := List.replicate 0 .null) (by decide) (Nat.le_of_ble_eq_true rfl) (fun z hz => List.eq_of_mem_replicate hz) ?_
  show WW mX6_claim 0 [.ref 0, .int (nI j), .int y] [] _ _ _
  refine r_iload_2 (pc := 0) dX6_claim_0 ?_
  refine r_iconst (pc := 1) (-1) dX6_claim_1 (by decide) ?_
  refine r_icmp_eq (pc := 2) 21 dX6_claim_2 (by decide) (fun c2 => ?_) (fun c2 => ?_)
  · refine r_iload_1 (pc := 21) dX6_claim_21 ?_
    refine r_cS1_1 (pc := 22) (ct_X6_isCell) cs_X6_isCell ⟨Nat.le_of_ble_eq_true rfl, Nat.le_of_ble_eq_true rfl⟩ ml_X6_56 dX6_claim_22 rfl (Nat.le_of_ble_eq_true rfl) ?_
    refine r_if_ne (pc := 25) 31 dX6_claim_25 (by decide) (fun _ => ?_) (fun c25 => absurd c25 (by rw [isC_n hj]; decide))
    refine r_aload_0 (pc := 31) dX6_claim_31 ?_
    refine r_f_X6_now (pc := 32) fl_X6_10 dX6_claim_32 ?_
    refine r_g_X1_camp (pc := 35) (List.mem_of_getElem? (i := 0) rfl) dX6_claim_35 ?_
    refine r_iload_1 (pc := 38) dX6_claim_38 ?_
    refine r_iload_2 (pc := 39) dX6_claim_39 ?_
    refine r_cV0_2 (pc := 40) ((ct_X0_setClaimer (by decide) hj).at sXc1 uXc1) cv_X0_setClaimer ⟨Nat.le_of_ble_eq_true rfl, Nat.le_of_ble_eq_true rfl⟩ ml_X6_106 dX6_claim_40 (by decide) rfl rfl rfl (Nat.le_of_ble_eq_true rfl) ?_
    refine r_aload_0 (pc := 43) dX6_claim_43 ?_
    refine r_f_X6_now (pc := 44) fl_X6_10 dX6_claim_44 ?_
    refine r_g_X1_camp (pc := 47) (List.mem_of_getElem? (i := 0) rfl) dX6_claim_47 ?_
    refine r_cV1_0 (pc := 50) ((ct_X0_countClaimed (by decide)).at sXc1 sXc1) cv_X0_countClaimed ⟨Nat.le_of_ble_eq_true rfl, Nat.le_of_ble_eq_true rfl⟩ ml_X6_109 dX6_claim_50 (by decide) rfl rfl rfl (Nat.le_of_ble_eq_true rfl) ?_
    refine r_iret (pc := 53) dX6_claim_53 rfl (by first | rfl | simp_all [bI]) rfl
  · refine r_aload_0 (pc := 5) dX6_claim_5 ?_
    refine r_f_X6_now (pc := 6) fl_X6_10 dX6_claim_6 ?_
    refine r_g_X1_camp (pc := 9) (List.mem_of_getElem? (i := 0) rfl) dX6_claim_9 ?_
    refine r_iload_2 (pc := 12) dX6_claim_12 ?_
    refine r_cV1_1 (pc := 13) ((ct_X0_isThere (by decide)).at sXc1 sXc1) cv_X0_isThere ⟨Nat.le_of_ble_eq_true rfl, Nat.le_of_ble_eq_true rfl⟩ ml_X6_85 dX6_claim_13 (by decide) rfl rfl rfl (Nat.le_of_ble_eq_true rfl) ?_
    refine r_if_ne (pc := 16) 21 dX6_claim_16 (by decide) (fun _ => ?_) (fun c16 => absurd c16 (by rw [h1.resolve_left c2]; decide))
    refine r_iload_1 (pc := 21) dX6_claim_21 ?_
    refine r_cS1_1 (pc := 22) (ct_X6_isCell) cs_X6_isCell ⟨Nat.le_of_ble_eq_true rfl, Nat.le_of_ble_eq_true rfl⟩ ml_X6_56 dX6_claim_22 rfl (Nat.le_of_ble_eq_true rfl) ?_
    refine r_if_ne (pc := 25) 31 dX6_claim_25 (by decide) (fun _ => ?_) (fun c25 => absurd c25 (by rw [isC_n hj]; decide))
    refine r_aload_0 (pc := 31) dX6_claim_31 ?_
    refine r_f_X6_now (pc := 32) fl_X6_10 dX6_claim_32 ?_
    refine r_g_X1_camp (pc := 35) (List.mem_of_getElem? (i := 0) rfl) dX6_claim_35 ?_
    refine r_iload_1 (pc := 38) dX6_claim_38 ?_
    refine r_iload_2 (pc := 39) dX6_claim_39 ?_
    refine r_cV0_2 (pc := 40) ((ct_X0_setClaimer (by decide) hj).at sXc1 uXc1) cv_X0_setClaimer ⟨Nat.le_of_ble_eq_true rfl, Nat.le_of_ble_eq_true rfl⟩ ml_X6_106 dX6_claim_40 (by decide) rfl rfl rfl (Nat.le_of_ble_eq_true rfl) ?_
    refine r_aload_0 (pc := 43) dX6_claim_43 ?_
    refine r_f_X6_now (pc := 44) fl_X6_10 dX6_claim_44 ?_
    refine r_g_X1_camp (pc := 47) (List.mem_of_getElem? (i := 0) rfl) dX6_claim_47 ?_
    refine r_cV1_0 (pc := 50) ((ct_X0_countClaimed (by decide)).at sXc1 sXc1) cv_X0_countClaimed ⟨Nat.le_of_ble_eq_true rfl, Nat.le_of_ble_eq_true rfl⟩ ml_X6_109 dX6_claim_50 (by decide) rfl rfl rfl (Nat.le_of_ble_eq_true rfl) ?_
    refine r_iret (pc := 53) dX6_claim_53 rfl (by first | rfl | simp_all [bI]) rfl
theorem ct_X6_sayB {h : Wd} {S : SG} {x : Int32} (hb : inR x 33 126 = false) : Ct mX6_say [.ref 0, .int x] (wx h S) (some (.int (-2))) (wx h S) := by
  refine Ct.of (Z := List.replicate 0 .null) (by decide) (Nat.le_of_ble_eq_true rfl) (fun z hz => List.eq_of_mem_replicate hz) ?_
  show WW mX6_say 0 [.ref 0, .int x] [] _ _ _
  refine r_iload_1 (pc := 0) dX6_say_0 ?_
  refine r_bipush (pc := 1) 33 dX6_say_1 (by decide) ?_
  refine r_bipush (pc := 3) 126 dX6_say_3 (by decide) ?_
  refine r_cS1_3 (pc := 5) (ct_X6_isWithin) cs_X6_isWithin ⟨Nat.le_of_ble_eq_true rfl, Nat.le_of_ble_eq_true rfl⟩ ml_X6_60 dX6_say_5 rfl (Nat.le_of_ble_eq_true rfl) ?_
  refine r_if_ne (pc := 8) 14 dX6_say_8 (by decide) (fun c8 => absurd (by rw [hb]; rfl) c8) (fun _ => ?_)
  refine r_bipush (pc := 11) (-2) dX6_say_11 (by decide) ?_
  refine r_iret (pc := 13) dX6_say_13 rfl (by first | rfl | simp_all [bI]) rfl
theorem ct_X6_sayF {h : Wd} {S : SG} {x : Int32} (hb : inR x 33 126 = true) (hc : wp_count S.pad = 60) : Ct mX6_say [.ref 0, .int x] (wx h S) (some (.int (-4))) (wx h S) := by
  refine Ct.of (Z := List.replicate 0 .null) (by decide) (Nat.le_of_ble_eq_true rfl) (fun z hz => List.eq_of_mem_replicate hz) ?_
  show WW mX6_say 0 [.ref 0, .int x] [] _ _ _
  refine r_iload_1 (pc := 0) dX6_say_0 ?_
  refine r_bipush (pc := 1) 33 dX6_say_1 (by decide) ?_
  refine r_bipush (pc := 3) 126 dX6_say_3 (by decide) ?_
  refine r_cS1_3 (pc := 5) (ct_X6_isWithin) cs_X6_isWithin ⟨Nat.le_of_ble_eq_true rfl, Nat.le_of_ble_eq_true rfl⟩ ml_X6_60 dX6_say_5 rfl (Nat.le_of_ble_eq_true rfl) ?_
  refine r_if_ne (pc := 8) 14 dX6_say_8 (by decide) (fun _ => ?_) (fun c8 => absurd c8 (by rw [hb]; decide))
  refine r_aload_0 (pc := 14) dX6_say_14 ?_
  refine r_f_X6_pad (pc := 15) fl_X6_25 dX6_say_15 ?_
  refine r_iload_1 (pc := 18) dX6_say_18 ?_
  refine r_cV1_1 (pc := 19) ((ct_X2_addF (n := 0) (by decide) hc).at sXp sXp) cv_X2_add ⟨Nat.le_of_ble_eq_true rfl, Nat.le_of_ble_eq_true rfl⟩ ml_X6_112 dX6_say_19 (by decide) rfl rfl rfl (Nat.le_of_ble_eq_true rfl) ?_
  refine r_if_eq (pc := 22) 35 dX6_say_22 (by decide) (fun _ => ?_) (fun c22 => absurd (rfl) (c22))
  refine r_bipush (pc := 35) (-4) dX6_say_35 (by decide) ?_
  refine r_iret (pc := 37) dX6_say_37 rfl (by first | rfl | simp_all [bI]) rfl
theorem ct_X6_say {h : Wd} {S : SG} {n : Nat} {x : Int32} (hb : inR x 33 126 = true) (hc : wp_count S.pad = nI n) (hn : n < 60) : Ct mX6_say [.ref 0, .int x] (wx h S) (some (.int (nI (n + 1)))) (wx h (S.sp (wp_s_count (wp_s_signs S.pad (upd (wp_signs S.pad) n x)) (nI (n + 1))))) := by
  refine Ct.of (Z := List.replicate 0 .null) (by decide) (Nat.le_of_ble_eq_true rfl) (fun z hz => List.eq_of_mem_replicate hz) ?_
  show WW mX6_say 0 [.ref 0, .int x] [] _ _ _
  refine r_iload_1 (pc := 0) dX6_say_0 ?_
  refine r_bipush (pc := 1) 33 dX6_say_1 (by decide) ?_
  refine r_bipush (pc := 3) 126 dX6_say_3 (by decide) ?_
  refine r_cS1_3 (pc := 5) (ct_X6_isWithin) cs_X6_isWithin ⟨Nat.le_of_ble_eq_true rfl, Nat.le_of_ble_eq_true rfl⟩ ml_X6_60 dX6_say_5 rfl (Nat.le_of_ble_eq_true rfl) ?_
  refine r_if_ne (pc := 8) 14 dX6_say_8 (by decide) (fun _ => ?_) (fun c8 => absurd c8 (by rw [hb]; decide))
  refine r_aload_0 (pc := 14) dX6_say_14 ?_
  refine r_f_X6_pad (pc := 15) fl_X6_25 dX6_say_15 ?_
  refine r_iload_1 (pc := 18) dX6_say_18 ?_
  refine r_cV1_1 (pc := 19) ((ct_X2_add (by decide) hc hn).at sXp uXp) cv_X2_add ⟨Nat.le_of_ble_eq_true rfl, Nat.le_of_ble_eq_true rfl⟩ ml_X6_112 dX6_say_19 (by decide) rfl rfl rfl (Nat.le_of_ble_eq_true rfl) ?_
  refine r_if_eq (pc := 22) 35 dX6_say_22 (by decide) (fun c22 => absurd c22 (by decide)) (fun _ => ?_)
  refine r_aload_0 (pc := 25) dX6_say_25 ?_
  refine r_f_X6_pad (pc := 26) fl_X6_25 dX6_say_26 ?_
  refine r_cV1_0 (pc := 29) ((ct_X2_size (by decide)).at sXp sXp) cv_X2_size ⟨Nat.le_of_ble_eq_true rfl, Nat.le_of_ble_eq_true rfl⟩ ml_X6_115 dX6_say_29 (by decide) rfl rfl rfl (Nat.le_of_ble_eq_true rfl) ?_
  refine r_goto (pc := 32) 37 dX6_say_32 (by decide) ?_
  refine r_iret (pc := 37) dX6_say_37 rfl (by first | rfl | simp_all [bI]) rfl
theorem ct_X6_wipe {h : Wd} {S : SG} : Ct mX6_wipe [.ref 0] (wx h S) (some (.int (wp_count S.pad))) (wx h (S.sp (wp_s_count S.pad 0))) := by
  refine Ct.of (Z := List.replicate 1 .null) (by decide) (Nat.le_of_ble_eq_true rfl) (fun z hz => List.eq_of_mem_replicate hz) ?_
  show WW mX6_wipe 0 [.ref 0, .null] [] _ _ _
  refine r_aload_0 (pc := 0) dX6_wipe_0 ?_
  refine r_f_X6_pad (pc := 1) fl_X6_25 dX6_wipe_1 ?_
  refine r_cV1_0 (pc := 4) ((ct_X2_size (by decide)).at sXp sXp) cv_X2_size ⟨Nat.le_of_ble_eq_true rfl, Nat.le_of_ble_eq_true rfl⟩ ml_X6_115 dX6_wipe_4 (by decide) rfl rfl rfl (Nat.le_of_ble_eq_true rfl) ?_
  refine r_istore_1 (pc := 7) dX6_wipe_7 rfl (by decide) ?_
  refine r_aload_0 (pc := 8) dX6_wipe_8 ?_
  refine r_f_X6_pad (pc := 9) fl_X6_25 dX6_wipe_9 ?_
  refine r_cV0_0 (pc := 12) ((ct_X2_clear (by decide)).at sXp uXp) cv_X2_clear ⟨Nat.le_of_ble_eq_true rfl, Nat.le_of_ble_eq_true rfl⟩ ml_X6_118 dX6_wipe_12 (by decide) rfl rfl rfl (Nat.le_of_ble_eq_true rfl) ?_
  refine r_iload_1 (pc := 15) dX6_wipe_15 ?_
  refine r_iret (pc := 16) dX6_wipe_16 rfl (by first | rfl | simp_all [bI]) rfl
theorem ct_X6_fault {h : Wd} {S : SG} {n : Nat} (hc : wp_count S.pad = nI n) (hn : n ≤ 60) : Ct mX6_fault [.ref 0] (wx h S) (some (.int (flt (wp_signs S.pad) n))) (wx h S) := by
  refine Ct.of (Z := List.replicate 0 .null) (by decide) (Nat.le_of_ble_eq_true rfl) (fun z hz => List.eq_of_mem_replicate hz) ?_
  show WW mX6_fault 0 [.ref 0] [] _ _ _
  refine r_aload_0 (pc := 0) dX6_fault_0 ?_
  refine r_f_X6_pad (pc := 1) fl_X6_25 dX6_fault_1 ?_
  refine r_cV1_0 (pc := 4) ((ct_X2_firstFault (by decide) hc hn).at sXp sXp) cv_X2_firstFault ⟨Nat.le_of_ble_eq_true rfl, Nat.le_of_ble_eq_true rfl⟩ ml_X6_121 dX6_fault_4 (by decide) rfl rfl rfl (Nat.le_of_ble_eq_true rfl) ?_
  refine r_iret (pc := 7) dX6_fault_7 rfl (by first | rfl | simp_all [bI]) rfl
