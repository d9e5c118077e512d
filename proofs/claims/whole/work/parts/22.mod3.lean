/-! THE REFERENCE: acts, nights, weeks -/
def eaB (w : Int32) : Int32 := if w = 1 then 1 else if w = 3 then -1 else 0
def noB (w : Int32) : Int32 := if w = 0 then 1 else if w = 2 then -1 else 0
theorem ct_X7_eastBy {x : Int32} {h : Wd} : Ct mX7_eastBy [.int x] h (some (.int (eaB x))) h := by
  refine Ct.of (Z := List.replicate 0 .null) (by decide) (Nat.le_of_ble_eq_true rfl) (fun z hz => List.eq_of_mem_replicate hz) ?_
  show WW mX7_eastBy 0 [.int x] [] _ _ _
  refine r_iload_0 (pc := 0) dX7_eastBy_0 ?_
  refine r_iconst (pc := 1) 1 dX7_eastBy_1 (by decide) ?_
  refine r_icmp_ne (pc := 2) 9 dX7_eastBy_2 (by decide) (fun c2 => ?_) (fun c2 => ?_)
  · refine r_iload_0 (pc := 9) dX7_eastBy_9 ?_
    refine r_iconst (pc := 10) 3 dX7_eastBy_10 (by decide) ?_
    refine r_icmp_ne (pc := 11) 18 dX7_eastBy_11 (by decide) (fun c11 => ?_) (fun c11 => ?_)
    · refine r_iconst (pc := 18) 0 dX7_eastBy_18 (by decide) ?_
      refine r_iret (pc := 19) dX7_eastBy_19 rfl (by simp_all [eaB]) rfl
    · refine r_iconst (pc := 14) (-1) dX7_eastBy_14 (by decide) ?_
      refine r_goto (pc := 15) 19 dX7_eastBy_15 (by decide) ?_
      refine r_iret (pc := 19) dX7_eastBy_19 rfl (by simp_all [eaB]) rfl
  · refine r_iconst (pc := 5) 1 dX7_eastBy_5 (by decide) ?_
    refine r_goto (pc := 6) 19 dX7_eastBy_6 (by decide) ?_
    refine r_iret (pc := 19) dX7_eastBy_19 rfl (by simp_all [eaB]) rfl
theorem ct_X7_northBy {x : Int32} {h : Wd} : Ct mX7_northBy [.int x] h (some (.int (noB x))) h := by
  refine Ct.of (Z := List.replicate 0 .null) (by decide) (Nat.le_of_ble_eq_true rfl) (fun z hz => List.eq_of_mem_replicate hz) ?_
  show WW mX7_northBy 0 [.int x] [] _ _ _
  refine r_iload_0 (pc := 0) dX7_northBy_0 ?_
  refine r_if_ne (pc := 1) 8 dX7_northBy_1 (by decide) (fun c1 => ?_) (fun c1 => ?_)
  · refine r_iload_0 (pc := 8) dX7_northBy_8 ?_
    refine r_iconst (pc := 9) 2 dX7_northBy_9 (by decide) ?_
    refine r_icmp_ne (pc := 10) 17 dX7_northBy_10 (by decide) (fun c10 => ?_) (fun c10 => ?_)
    · refine r_iconst (pc := 17) 0 dX7_northBy_17 (by decide) ?_
      refine r_iret (pc := 18) dX7_northBy_18 rfl (by simp_all [noB]) rfl
    · refine r_iconst (pc := 13) (-1) dX7_northBy_13 (by decide) ?_
      refine r_goto (pc := 14) 18 dX7_northBy_14 (by decide) ?_
      refine r_iret (pc := 18) dX7_northBy_18 rfl (by simp_all [noB]) rfl
  · refine r_iconst (pc := 4) 1 dX7_northBy_4 (by decide) ?_
    refine r_goto (pc := 5) 18 dX7_northBy_5 (by decide) ?_
    refine r_iret (pc := 18) dX7_northBy_18 rfl (by simp_all [noB]) rfl
def canG (t w : Int32) : Bool := inR (t - t / 8 * 8 + eaB w) 0 7 && inR (t / 8 + noB w) 0 7
theorem ct_X7_canGo {h : Wd} {k m : Nat} {c : Mod} {w : Int32} (hk : k + 24 < 76) (hm : m < 6) : Ct mX7_canGo [.ref k, .int (nI m), .int w] (wm h k c) (some (.int (bI (canG (wm_tent c m) w)))) (wm h k c) := by
  refine Ct.of (Z := List.replicate 0 .null) (by decide) (Nat.le_of_ble_eq_true rfl) (fun z hz => List.eq_of_mem_replicate hz) ?_
  show WW mX7_canGo 0 [.ref k, .int (nI m), .int w] [] _ _ _
  refine r_aload_0 (pc := 0) dX7_canGo_0 ?_
  refine r_wm_get_tent (pc := 1) hk fl_X7_16 dX7_canGo_1 ?_
  refine r_iload_1 (pc := 4) dX7_canGo_4 ?_
  refine r_wm_ld_tent (pc := 5) hk (by omega) dX7_canGo_5 ?_
  refine r_bipush (pc := 6) 8 dX7_canGo_6 (by decide) ?_
  refine r_irem (pc := 8) dX7_canGo_8 (by decide) ?_
  refine r_iload_2 (pc := 9) dX7_canGo_9 ?_
  refine r_cS1_1 (pc := 10) (ct_X7_eastBy) cs_X7_eastBy ⟨Nat.le_of_ble_eq_true rfl, Nat.le_of_ble_eq_true rfl⟩ ml_X7_149 dX7_canGo_10 rfl (Nat.le_of_ble_eq_true rfl) ?_
  refine r_iadd (pc := 13) dX7_canGo_13 ?_
  refine r_i2l (pc := 14) dX7_canGo_14 ?_
  refine r_lconst (pc := 15) 0 dX7_canGo_15 (by decide) ?_
  refine r_ldc2 (pc := 16) dX7_canGo_16 kl_X7_152 ?_
  refine r_cS1_3 (pc := 19) (ct_X7_inI (lo := 0) (hi := 7) (by decide) (by decide)) cs_X7_in ⟨Nat.le_of_ble_eq_true rfl, Nat.le_of_ble_eq_true rfl⟩ ml_X7_86 dX7_canGo_19 rfl (Nat.le_of_ble_eq_true rfl) ?_
  refine r_if_eq (pc := 22) 54 dX7_canGo_22 (by decide) (fun c22 => ?_) (fun c22 => ?_)
  · refine r_iconst (pc := 54) 0 dX7_canGo_54 (by decide) ?_
    refine r_zret (pc := 55) dX7_canGo_55 rfl (by first | rfl | exact bI_nar _) (by simp_all [canG, bI_0, bI_n0, bI]) rfl
  · refine r_aload_0 (pc := 25) dX7_canGo_25 ?_
    refine r_wm_get_tent (pc := 26) hk fl_X7_16 dX7_canGo_26 ?_
    refine r_iload_1 (pc := 29) dX7_canGo_29 ?_
    refine r_wm_ld_tent (pc := 30) hk (by omega) dX7_canGo_30 ?_
    refine r_bipush (pc := 31) 8 dX7_canGo_31 (by decide) ?_
    refine r_idiv (pc := 33) dX7_canGo_33 (by decide) ?_
    refine r_iload_2 (pc := 34) dX7_canGo_34 ?_
    refine r_cS1_1 (pc := 35) (ct_X7_northBy) cs_X7_northBy ⟨Nat.le_of_ble_eq_true rfl, Nat.le_of_ble_eq_true rfl⟩ ml_X7_154 dX7_canGo_35 rfl (Nat.le_of_ble_eq_true rfl) ?_
    refine r_iadd (pc := 38) dX7_canGo_38 ?_
    refine r_i2l (pc := 39) dX7_canGo_39 ?_
    refine r_lconst (pc := 40) 0 dX7_canGo_40 (by decide) ?_
    refine r_ldc2 (pc := 41) dX7_canGo_41 kl_X7_152 ?_
    refine r_cS1_3 (pc := 44) (ct_X7_inI (lo := 0) (hi := 7) (by decide) (by decide)) cs_X7_in ⟨Nat.le_of_ble_eq_true rfl, Nat.le_of_ble_eq_true rfl⟩ ml_X7_86 dX7_canGo_44 rfl (Nat.le_of_ble_eq_true rfl) ?_
    refine r_if_eq (pc := 47) 54 dX7_canGo_47 (by decide) (fun c47 => ?_) (fun c47 => ?_)
    · refine r_iconst (pc := 54) 0 dX7_canGo_54 (by decide) ?_
      refine r_zret (pc := 55) dX7_canGo_55 rfl (by first | rfl | exact bI_nar _) (by simp_all [canG, bI_0, bI_n0, bI]) rfl
    · refine r_iconst (pc := 50) 1 dX7_canGo_50 (by decide) ?_
      refine r_goto (pc := 51) 55 dX7_canGo_51 (by decide) ?_
      refine r_zret (pc := 55) dX7_canGo_55 rfl (by first | rfl | exact bI_nar _) (by simp_all [canG, bI_0, bI_n0, bI]) rfl
def whyF (c : Mod) (what x wy : Int32) : Int32 := if what = 5 then 0 else if hasB (wm_men c) x = true then (if what = 0 then (if canG (wm_tent c x.toNatClampNeg) wy then 0 else 2) else if what = 1 then (if kb (wm_knows c x.toNatClampNeg) (wm_tent c x.toNatClampNeg).toNatClampNeg then 3 else 0) else if what = 2 then (if wm_owner c (wm_tent c x.toNatClampNeg).toNatClampNeg < 0 then 0 else 4) else 0) else 1
theorem ct_X7_whyNot {h : Wd} {k : Nat} {c : Mod} {what x wy : Int32} (hk : k + 24 < 76) (hT : okT (wm_tent c)) : Ct mX7_whyNot [.ref k, .int what, .int x, .int wy] (wm h k c) (some (.int (whyF c what x wy))) (wm h k c) := by
  refine Ct.of (Z := List.replicate 0 .null) (by decide) (Nat.le_of_ble_eq_true rfl) (fun z hz => List.eq_of_mem_replicate hz) ?_
  show WW mX7_whyNot 0 [.ref k, .int what, .int x, .int wy] [] _ _ _
  refine r_iload_1 (pc := 0) dX7_whyNot_0 ?_
  refine r_iconst (pc := 1) 5 dX7_whyNot_1 (by decide) ?_
  refine r_icmp_ne (pc := 2) 7 dX7_whyNot_2 (by decide) (fun c2 => ?_) (fun c2 => ?_)
  · refine r_aload_0 (pc := 7) dX7_whyNot_7 ?_
    refine r_iload_2 (pc := 8) dX7_whyNot_8 ?_
    refine r_cV1_1 (pc := 9) (ct_X7_isMan hk) cv_X7_isMan ⟨Nat.le_of_ble_eq_true rfl, Nat.le_of_ble_eq_true rfl⟩ ml_X7_106 dX7_whyNot_9 (by omega) (wm_o _ _ _) rfl rfl (Nat.le_of_ble_eq_true rfl) ?_
    refine r_if_ne (pc := 12) 17 dX7_whyNot_12 (by decide) (fun c12 => ?_) (fun c12 => ?_)
    · rw [bI_n0] at c12
      have c12b := c12
      obtain ⟨m, hm, rfl, hb⟩ := hasB_t c12
      obtain ⟨t, ht, et⟩ := hT m hm
      have em : (nI m).toNatClampNeg = m := ci hm (by decide)
      have en : (nI t).toNatClampNeg = t := ci ht (by decide)
      refine r_iload_1 (pc := 17) dX7_whyNot_17 ?_
      by_cases e18_0 : what = 0
      · refine r_tabIn (pc := 18) (off := 26) 0 44 dX7_whyNot_18 (by rw [e18_0]; decide) (by decide) (by decide) rfl (by decide) ?_
        refine r_aload_0 (pc := 44) dX7_whyNot_44 ?_
        refine r_iload_2 (pc := 45) dX7_whyNot_45 ?_
        refine r_iload_3 (pc := 46) dX7_whyNot_46 ?_
        refine r_cV1_2 (pc := 47) (ct_X7_canGo hk hm) cv_X7_canGo ⟨Nat.le_of_ble_eq_true rfl, Nat.le_of_ble_eq_true rfl⟩ ml_X7_157 dX7_whyNot_47 (by omega) (wm_o _ _ _) rfl rfl (Nat.le_of_ble_eq_true rfl) ?_
        refine r_if_eq (pc := 50) 57 dX7_whyNot_50 (by decide) (fun c50 => ?_) (fun c50 => ?_)
        · refine r_iconst (pc := 57) 2 dX7_whyNot_57 (by decide) ?_
          refine r_iret (pc := 58) dX7_whyNot_58 rfl (by simp_all [whyF, bI_0, bI_n0]) rfl
        · refine r_iconst (pc := 53) 0 dX7_whyNot_53 (by decide) ?_
          refine r_goto (pc := 54) 58 dX7_whyNot_54 (by decide) ?_
          refine r_iret (pc := 58) dX7_whyNot_58 rfl (by simp_all [whyF, bI_0, bI_n0]) rfl
      by_cases e18_1 : what = 1
      · refine r_tabIn (pc := 18) (off := 41) 1 59 dX7_whyNot_18 (by rw [e18_1]; decide) (by decide) (by decide) rfl (by decide) ?_
        refine r_aload_0 (pc := 59) dX7_whyNot_59 ?_
        refine r_iload_2 (pc := 60) dX7_whyNot_60 ?_
        refine r_aload_0 (pc := 61) dX7_whyNot_61 ?_
        refine r_wm_get_tent (pc := 62) hk fl_X7_16 dX7_whyNot_62 ?_
        refine r_iload_2 (pc := 65) dX7_whyNot_65 ?_
        refine r_wm_ld_tent (pc := 66) hk (by omega) dX7_whyNot_66 ?_
        rw [et]
        refine r_cV1_2 (pc := 67) (ct_X7_isKnown hk hm ht) cv_X7_isKnown ⟨Nat.le_of_ble_eq_true rfl, Nat.le_of_ble_eq_true rfl⟩ ml_X7_114 dX7_whyNot_67 (by omega) (wm_o _ _ _) rfl rfl (Nat.le_of_ble_eq_true rfl) ?_
        refine r_if_eq (pc := 70) 77 dX7_whyNot_70 (by decide) (fun c70 => ?_) (fun c70 => ?_)
        · refine r_iconst (pc := 77) 0 dX7_whyNot_77 (by decide) ?_
          refine r_iret (pc := 78) dX7_whyNot_78 rfl (by simp_all [whyF, bI_0, bI_n0]) rfl
        · refine r_iconst (pc := 73) 3 dX7_whyNot_73 (by decide) ?_
          refine r_goto (pc := 74) 78 dX7_whyNot_74 (by decide) ?_
          refine r_iret (pc := 78) dX7_whyNot_78 rfl (by simp_all [whyF, bI_0, bI_n0]) rfl
      by_cases e18_2 : what = 2
      · refine r_tabIn (pc := 18) (off := 61) 2 79 dX7_whyNot_18 (by rw [e18_2]; decide) (by decide) (by decide) rfl (by decide) ?_
        refine r_aload_0 (pc := 79) dX7_whyNot_79 ?_
        refine r_wm_get_owner (pc := 80) hk fl_X7_13 dX7_whyNot_80 ?_
        refine r_aload_0 (pc := 83) dX7_whyNot_83 ?_
        refine r_wm_get_tent (pc := 84) hk fl_X7_16 dX7_whyNot_84 ?_
        refine r_iload_2 (pc := 87) dX7_whyNot_87 ?_
        refine r_wm_ld_tent (pc := 88) hk (by omega) dX7_whyNot_88 ?_
        rw [et]
        refine r_wm_ld_owner (pc := 89) hk (by omega) dX7_whyNot_89 ?_
        refine r_if_lt (pc := 90) 97 dX7_whyNot_90 (by decide) (fun c90 => ?_) (fun c90 => ?_)
        · refine r_iconst (pc := 97) 0 dX7_whyNot_97 (by decide) ?_
          refine r_iret (pc := 98) dX7_whyNot_98 rfl (by first | (rw [whyF, e18_2, if_neg (by decide), if_pos c12b, if_neg (by decide), if_neg (by decide), if_pos rfl, em, et, en, if_pos c90]) | (rw [whyF, e18_2, if_neg (by decide), if_pos c12b, if_neg (by decide), if_neg (by decide), if_pos rfl, em, et, en, if_neg c90])) rfl
        · refine r_iconst (pc := 93) 4 dX7_whyNot_93 (by decide) ?_
          refine r_goto (pc := 94) 98 dX7_whyNot_94 (by decide) ?_
          refine r_iret (pc := 98) dX7_whyNot_98 rfl (by first | (rw [whyF, e18_2, if_neg (by decide), if_pos c12b, if_neg (by decide), if_neg (by decide), if_pos rfl, em, et, en, if_pos c90]) | (rw [whyF, e18_2, if_neg (by decide), if_pos c12b, if_neg (by decide), if_neg (by decide), if_pos rfl, em, et, en, if_neg c90])) rfl
      refine r_tabOut (pc := 18) 99 dX7_whyNot_18 (by have z0 := lv_neT (a := 0) e18_0 (by decide); have z1 := lv_neT (a := 1) e18_1 (by decide); have z2 := lv_neT (a := 2) e18_2 (by decide); omega) (by decide) ?_
      refine r_iconst (pc := 99) 0 dX7_whyNot_99 (by decide) ?_
      refine r_iret (pc := 100) dX7_whyNot_100 rfl (by simp_all [whyF, bI_0, bI_n0]) rfl
    · rw [bI_0] at c12
      refine r_iconst (pc := 15) 1 dX7_whyNot_15 (by decide) ?_
      refine r_iret (pc := 16) dX7_whyNot_16 rfl (by simp_all [whyF, bI_0, bI_n0]) rfl
  · refine r_iconst (pc := 5) 0 dX7_whyNot_5 (by decide) ?_
    refine r_iret (pc := 6) dX7_whyNot_6 rfl (by simp_all [whyF, bI_0, bI_n0]) rfl
def clH (c : Mod) (m t : Nat) : Mod :=
  if wm_ore c t = 0 then wm_s_nothingMany (wm_s_firstNothing (wm_s_owner c (upd (wm_owner c) t (nI m))) (if 0 ≤ wm_firstNothing c then wm_firstNothing c else wm_actNow c)) (wm_nothingMany c + 1)
  else wm_s_owner c (upd (wm_owner c) t (nI m))
theorem ct_X7_claimHere {h : Wd} {k m t : Nat} {c : Mod} (hk : k + 24 < 76) (hm : m < 6) (ht : t < 64) (et : wm_tent c m = nI t) : Ct mX7_claimHere [.ref k, .int (nI m)] (wm h k c) none (wm h k (clH c m t)) := by
  refine Ct.of (Z := List.replicate 1 .null) (by decide) (Nat.le_of_ble_eq_true rfl) (fun z hz => List.eq_of_mem_replicate hz) ?_
  show WW mX7_claimHere 0 [.ref k, .int (nI m), .null] [] _ _ _
  refine r_aload_0 (pc := 0) dX7_claimHere_0 ?_
  refine r_wm_get_tent (pc := 1) hk fl_X7_16 dX7_claimHere_1 ?_
  refine r_iload_1 (pc := 4) dX7_claimHere_4 ?_
  refine r_wm_ld_tent (pc := 5) hk (by omega) dX7_claimHere_5 ?_
  rw [et]
  refine r_istore_2 (pc := 6) dX7_claimHere_6 rfl (by decide) ?_
  refine r_aload_0 (pc := 7) dX7_claimHere_7 ?_
  refine r_wm_get_owner (pc := 8) hk fl_X7_13 dX7_claimHere_8 ?_
  refine r_iload_2 (pc := 11) dX7_claimHere_11 ?_
  refine r_iload_1 (pc := 12) dX7_claimHere_12 ?_
  refine r_wm_st_owner (pc := 13) hk (by omega) dX7_claimHere_13 ?_
  refine r_aload_0 (pc := 14) dX7_claimHere_14 ?_
  refine r_wm_get_ore (pc := 15) hk fl_X7_7 dX7_claimHere_15 ?_
  refine r_iload_2 (pc := 18) dX7_claimHere_18 ?_
  refine r_wm_ld_ore (pc := 19) hk (by omega) dX7_claimHere_19 ?_
  refine r_if_ne (pc := 20) 55 dX7_claimHere_20 (by decide) (fun c20 => ?_) (fun c20 => ?_)
  · refine r_vret (pc := 55) dX7_claimHere_55 rfl rfl (by have z : ¬ wm_ore c t = 0 := c20; simp only [clH, if_neg z])
  · refine r_aload_0 (pc := 23) dX7_claimHere_23 ?_
    refine r_aload_0 (pc := 24) dX7_claimHere_24 ?_
    refine r_wm_get_firstNothing (pc := 25) hk fl_X7_160 dX7_claimHere_25 ?_
    refine r_if_ge (pc := 28) 38 dX7_claimHere_28 (by decide) (fun c28 => ?_) (fun c28 => ?_)
    · have c28b : 0 ≤ wm_firstNothing c := c28
      refine r_aload_0 (pc := 38) dX7_claimHere_38 ?_
      refine r_wm_get_firstNothing (pc := 39) hk fl_X7_160 dX7_claimHere_39 ?_
      refine r_wm_put_firstNothing (pc := 42) hk fl_X7_160 dX7_claimHere_42 ?_
      refine r_aload_0 (pc := 45) dX7_claimHere_45 ?_
      refine r_dup (pc := 46) dX7_claimHere_46 rfl ?_
      refine r_wm_get_nothingMany (pc := 47) hk fl_X7_166 dX7_claimHere_47 ?_
      refine r_iconst (pc := 50) 1 dX7_claimHere_50 (by decide) ?_
      refine r_iadd (pc := 51) dX7_claimHere_51 ?_
      refine r_wm_put_nothingMany (pc := 52) hk fl_X7_166 dX7_claimHere_52 ?_
      refine r_vret (pc := 55) dX7_claimHere_55 rfl rfl (by have z : wm_ore c t = 0 := c20; simp only [clH, if_pos z, if_pos c28b]; rfl)
    · have c28b : ¬ 0 ≤ wm_firstNothing c := c28
      refine r_aload_0 (pc := 31) dX7_claimHere_31 ?_
      refine r_wm_get_actNow (pc := 32) hk fl_X7_163 dX7_claimHere_32 ?_
      refine r_goto (pc := 35) 42 dX7_claimHere_35 (by decide) ?_
      refine r_wm_put_firstNothing (pc := 42) hk fl_X7_160 dX7_claimHere_42 ?_
      refine r_aload_0 (pc := 45) dX7_claimHere_45 ?_
      refine r_dup (pc := 46) dX7_claimHere_46 rfl ?_
      refine r_wm_get_nothingMany (pc := 47) hk fl_X7_166 dX7_claimHere_47 ?_
      refine r_iconst (pc := 50) 1 dX7_claimHere_50 (by decide) ?_
      refine r_iadd (pc := 51) dX7_claimHere_51 ?_
      refine r_wm_put_nothingMany (pc := 52) hk fl_X7_166 dX7_claimHere_52 ?_
      refine r_vret (pc := 55) dX7_claimHere_55 rfl rfl (by have z : wm_ore c t = 0 := c20; simp only [clH, if_pos z, if_neg c28b]; rfl)
/-- the gain of a night, the reference's way -/
def gnF (c : Mod) (m : Nat) : Nat → Int32 := isum (fun j => if hasB (wm_men c) (nI m) = true ∧ wm_owner c j = nI m ∧ kb (wm_knows c m) j = true then wm_ore c j else 0)
def ngM (c : Mod) : Nat → Mod
  | 0 => c
  | n + 1 => wm_s_salt (wm_s_womans (ngM c n) (wm_womans (ngM c n) + gnF c n 64 / 10)) (upd (wm_salt (ngM c n)) n (if wm_salt (ngM c n) n + gnF c n 64 - gnF c n 64 / 10 ≤ 999 then wm_salt (ngM c n) n + gnF c n 64 - gnF c n 64 / 10 else 999))
theorem ngM_same (c : Mod) : ∀ n, (∀ i, i ≠ 5 → (ngM c n).1 i = c.1 i) ∧ (ngM c n).2.1 = c.2.1 ∧ (∀ i, i ≠ 5 → (ngM c n).2.2 i = c.2.2 i)
  | 0 => ⟨fun _ _ => rfl, rfl, fun _ _ => rfl⟩
  | n + 1 => by
    obtain ⟨a, b, d⟩ := ngM_same c n
    refine ⟨fun i hi => ?_, b, fun i hi => ?_⟩
    · rw [← a i hi]; exact va_up_ne _ _ hi
    · rw [← d i hi]; exact va_up_ne _ _ hi
theorem lp_X7_pn2 {h h' : Wd} {k m : Nat} {c : Mod} {r : Option Value} (hk : k + 24 < 76) (hm : m < 6) : ∀ n j, j + n = 64 → WW mX7_passNight 64 [.ref k, .int (nI m), .int (gnF c m 64), .int (nI 64)] [] (wm h k c) r h' → WW mX7_passNight 12 [.ref k, .int (nI m), .int (gnF c m j), .int (nI j)] [] (wm h k c) r h' := by
  intro n
  induction n with
  | zero =>
    intro j hj k1
    obtain rfl : j = 64 := by omega
    refine r_iload_3 (pc := 12) dX7_passNight_12 ?_
    refine r_bipush (pc := 13) 64 dX7_passNight_13 (by decide) ?_
    refine r_icmp_ge (pc := 15) 64 dX7_passNight_15 (by decide) (fun _ => ?_) (fun c15 => absurd (nI_le (a := 64) (b := 64) (by omega) (by omega)) (c15))
    exact k1
  | succ n ih =>
    intro j hj k1
    refine r_iload_3 (pc := 12) dX7_passNight_12 ?_
    refine r_bipush (pc := 13) 64 dX7_passNight_13 (by decide) ?_
    refine r_icmp_ge (pc := 15) 64 dX7_passNight_15 (by decide) (fun c15 => absurd c15 (nI_ge (a := j) (b := 64) (by omega) (by decide))) (fun _ => ?_)
    refine r_iload_2 (pc := 18) dX7_passNight_18 ?_
    refine r_aload_0 (pc := 19) dX7_passNight_19 ?_
    refine r_iload_1 (pc := 20) dX7_passNight_20 ?_
    refine r_cV1_1 (pc := 21) (ct_X7_isMan hk) cv_X7_isMan ⟨Nat.le_of_ble_eq_true rfl, Nat.le_of_ble_eq_true rfl⟩ ml_X7_106 dX7_passNight_21 (by omega) (wm_o _ _ _) rfl rfl (Nat.le_of_ble_eq_true rfl) ?_
    refine r_if_eq (pc := 24) 55 dX7_passNight_24 (by decide) (fun c24 => ?_) (fun c24 => ?_)
    · rw [bI_0] at c24
      refine r_iconst (pc := 55) 0 dX7_passNight_55 (by decide) ?_
      refine r_iadd (pc := 56) dX7_passNight_56 ?_
      refine r_istore_2 (pc := 57) dX7_passNight_57 rfl (by decide) ?_
      refine r_inc_3 (pc := 58) dX7_passNight_58 rfl (by decide) ?_
      refine r_goto (pc := 61) 12 dX7_passNight_61 (by decide) ?_
      exact (ih (j + 1) (by omega) k1).L (by rw [gnF, isum, if_neg (fun z => by rw [c24] at z; cases z.1)])
    · rw [bI_n0] at c24
      refine r_aload_0 (pc := 27) dX7_passNight_27 ?_
      refine r_wm_get_owner (pc := 28) hk fl_X7_13 dX7_passNight_28 ?_
      refine r_iload_3 (pc := 31) dX7_passNight_31 ?_
      refine r_wm_ld_owner (pc := 32) hk (by omega) dX7_passNight_32 ?_
      refine r_iload_1 (pc := 33) dX7_passNight_33 ?_
      refine r_icmp_ne (pc := 34) 55 dX7_passNight_34 (by decide) (fun c34 => ?_) (fun c34 => ?_)
      · refine r_iconst (pc := 55) 0 dX7_passNight_55 (by decide) ?_
        refine r_iadd (pc := 56) dX7_passNight_56 ?_
        refine r_istore_2 (pc := 57) dX7_passNight_57 rfl (by decide) ?_
        refine r_inc_3 (pc := 58) dX7_passNight_58 rfl (by decide) ?_
        refine r_goto (pc := 61) 12 dX7_passNight_61 (by decide) ?_
        exact (ih (j + 1) (by omega) k1).L (by rw [gnF, isum, if_neg (fun z => c34 z.2.1)])
      · refine r_aload_0 (pc := 37) dX7_passNight_37 ?_
        refine r_iload_1 (pc := 38) dX7_passNight_38 ?_
        refine r_iload_3 (pc := 39) dX7_passNight_39 ?_
        refine r_cV1_2 (pc := 40) (ct_X7_isKnown hk hm (by omega)) cv_X7_isKnown ⟨Nat.le_of_ble_eq_true rfl, Nat.le_of_ble_eq_true rfl⟩ ml_X7_114 dX7_passNight_40 (by omega) (wm_o _ _ _) rfl rfl (Nat.le_of_ble_eq_true rfl) ?_
        refine r_if_eq (pc := 43) 55 dX7_passNight_43 (by decide) (fun c43 => ?_) (fun c43 => ?_)
        · rw [bI_0] at c43
          refine r_iconst (pc := 55) 0 dX7_passNight_55 (by decide) ?_
          refine r_iadd (pc := 56) dX7_passNight_56 ?_
          refine r_istore_2 (pc := 57) dX7_passNight_57 rfl (by decide) ?_
          refine r_inc_3 (pc := 58) dX7_passNight_58 rfl (by decide) ?_
          refine r_goto (pc := 61) 12 dX7_passNight_61 (by decide) ?_
          exact (ih (j + 1) (by omega) k1).L (by rw [gnF, isum, if_neg (fun z => by rw [c43] at z; cases z.2.2)])
        · rw [bI_n0] at c43
          refine r_aload_0 (pc := 46) dX7_passNight_46 ?_
          refine r_wm_get_ore (pc := 47) hk fl_X7_7 dX7_passNight_47 ?_
          refine r_iload_3 (pc := 50) dX7_passNight_50 ?_
          refine r_wm_ld_ore (pc := 51) hk (by omega) dX7_passNight_51 ?_
          refine r_goto (pc := 52) 56 dX7_passNight_52 (by decide) ?_
          refine r_iadd (pc := 56) dX7_passNight_56 ?_
          refine r_istore_2 (pc := 57) dX7_passNight_57 rfl (by decide) ?_
          refine r_inc_3 (pc := 58) dX7_passNight_58 rfl (by decide) ?_
          refine r_goto (pc := 61) 12 dX7_passNight_61 (by decide) ?_
          exact (ih (j + 1) (by omega) k1).L (by rw [gnF, isum, if_pos ⟨c24, c34, c43⟩])
theorem lp_X7_passNight {h : Wd} {k : Nat} {c : Mod} (hk : k + 24 < 76) : ∀ n j, j + n = 6 → ∀ z1 z2 : Value, WW mX7_passNight 2 [.ref k, .int (nI j), z1, z2] [] (wm h k (ngM c j)) none (wm h k (ngM c 6)) := by
  intro n
  induction n with
  | zero =>
    intro j hj z1 z2
    obtain rfl : j = 6 := by omega
    refine r_iload_1 (pc := 2) dX7_passNight_2 ?_
    refine r_bipush (pc := 3) 6 dX7_passNight_3 (by decide) ?_
    refine r_icmp_ge (pc := 5) 117 dX7_passNight_5 (by decide) (fun _ => ?_) (fun c5 => absurd (nI_le (a := 6) (b := 6) (by omega) (by omega)) (c5))
    refine r_vret (pc := 117) dX7_passNight_117 rfl rfl rfl
  | succ n ih =>
    intro j hj z1 z2
    have eg : ∀ n, gnF (ngM c j) j n = gnF c j n := by
      obtain ⟨a, b, d⟩ := ngM_same c j
      intro n
      have e1 : wm_ore (ngM c j) = wm_ore c := a _ (by decide)
      have e2 : wm_owner (ngM c j) = wm_owner c := a _ (by decide)
      have e3 : wm_knows (ngM c j) = wm_knows c := congrFun b _
      have e4 : wm_men (ngM c j) = wm_men c := d _ (by decide)
      simp only [gnF, e1, e2, e3, e4]
    refine r_iload_1 (pc := 2) dX7_passNight_2 ?_
    refine r_bipush (pc := 3) 6 dX7_passNight_3 (by decide) ?_
    refine r_icmp_ge (pc := 5) 117 dX7_passNight_5 (by decide) (fun c5 => absurd c5 (nI_ge (a := j) (b := 6) (by omega) (by decide))) (fun _ => ?_)
    refine r_iconst (pc := 8) 0 dX7_passNight_8 (by decide) ?_
    refine r_istore_2 (pc := 9) dX7_passNight_9 rfl (by decide) ?_
    refine r_iconst (pc := 10) 0 dX7_passNight_10 (by decide) ?_
    refine r_istore_3 (pc := 11) dX7_passNight_11 rfl (by decide) ?_
    refine lp_X7_pn2 (m := j) (c := ngM c j) hk (by omega) 64 0 rfl ?_
    simp only [eg]
    refine r_aload_0 (pc := 64) dX7_passNight_64 ?_
    refine r_dup (pc := 65) dX7_passNight_65 rfl ?_
    refine r_wm_get_womans (pc := 66) hk fl_X7_169 dX7_passNight_66 ?_
    refine r_iload_2 (pc := 69) dX7_passNight_69 ?_
    refine r_bipush (pc := 70) 10 dX7_passNight_70 (by decide) ?_
    refine r_idiv (pc := 72) dX7_passNight_72 (by decide) ?_
    refine r_iadd (pc := 73) dX7_passNight_73 ?_
    refine r_wm_put_womans (pc := 74) hk fl_X7_169 dX7_passNight_74 ?_
    refine r_aload_0 (pc := 77) dX7_passNight_77 ?_
    refine r_wm_get_salt (pc := 78) hk fl_X7_29 dX7_passNight_78 ?_
    refine r_iload_1 (pc := 81) dX7_passNight_81 ?_
    refine r_wm_ld_salt (pc := 82) hk (by omega) dX7_passNight_82 ?_
    refine r_iload_2 (pc := 83) dX7_passNight_83 ?_
    refine r_iadd (pc := 84) dX7_passNight_84 ?_
    refine r_iload_2 (pc := 85) dX7_passNight_85 ?_
    refine r_bipush (pc := 86) 10 dX7_passNight_86 (by decide) ?_
    refine r_idiv (pc := 88) dX7_passNight_88 (by decide) ?_
    refine r_isub (pc := 89) dX7_passNight_89 ?_
    refine r_istore_3 (pc := 90) dX7_passNight_90 rfl (by decide) ?_
    refine r_aload_0 (pc := 91) dX7_passNight_91 ?_
    refine r_wm_get_salt (pc := 92) hk fl_X7_29 dX7_passNight_92 ?_
    refine r_iload_1 (pc := 95) dX7_passNight_95 ?_
    refine r_iload_3 (pc := 96) dX7_passNight_96 ?_
    refine r_sipush (pc := 97) 999 dX7_passNight_97 (by decide) ?_
    refine r_icmp_le (pc := 100) 109 dX7_passNight_100 (by decide) (fun c100 => ?_) (fun c100 => ?_)
    · refine r_iload_3 (pc := 109) dX7_passNight_109 ?_
      refine r_wm_st_salt (pc := 110) hk (by omega) dX7_passNight_110 ?_
      refine r_inc_1 (pc := 111) dX7_passNight_111 rfl (by decide) ?_
      refine r_goto (pc := 114) 2 dX7_passNight_114 (by decide) ?_
      have c100b : wm_salt (ngM c j) j + gnF c j 64 - gnF c j 64 / 10 ≤ 999 := c100
      exact (ih (j + 1) (by omega) _ _).w (by rw [ngM, if_pos c100b]; rfl)
    · refine r_sipush (pc := 103) 999 dX7_passNight_103 (by decide) ?_
      refine r_goto (pc := 106) 110 dX7_passNight_106 (by decide) ?_
      refine r_wm_st_salt (pc := 110) hk (by omega) dX7_passNight_110 ?_
      refine r_inc_1 (pc := 111) dX7_passNight_111 rfl (by decide) ?_
      refine r_goto (pc := 114) 2 dX7_passNight_114 (by decide) ?_
      have c100b : ¬ wm_salt (ngM c j) j + gnF c j 64 - gnF c j 64 / 10 ≤ 999 := c100
      exact (ih (j + 1) (by omega) _ _).w (by rw [ngM, if_neg c100b]; rfl)
theorem ct_X7_passNight {h : Wd} {k : Nat} {c : Mod} (hk : k + 24 < 76) : Ct mX7_passNight [.ref k] (wm h k c) none (wm h k (ngM c 6)) := by
  refine Ct.of (Z := List.replicate 3 .null) (by decide) (Nat.le_of_ble_eq_true rfl) (fun z hz => List.eq_of_mem_replicate hz) ?_
  show WW mX7_passNight 0 [.ref k, .null, .null, .null] [] _ _ _
  refine r_iconst (pc := 0) 0 dX7_passNight_0 (by decide) ?_
  refine r_istore_1 (pc := 1) dX7_passNight_1 rfl (by decide) ?_
  exact lp_X7_passNight (c := c) hk 6 0 rfl _ _
/-- what comes of an act that can be -/
def hpn (c : Mod) (what x wy : Int32) : Mod :=
  if what = 0 then wm_s_tent c (upd (wm_tent c) x.toNatClampNeg (wm_tent c x.toNatClampNeg + (8 * noB wy + eaB wy)))
  else if what = 1 then wm_s_knows c (vp_updL (wm_knows c) x.toNatClampNeg (wm_knows c x.toNatClampNeg ||| bL (wm_tent c x.toNatClampNeg).toNatClampNeg))
  else if what = 2 then clH c x.toNatClampNeg (wm_tent c x.toNatClampNeg).toNatClampNeg
  else if what = 3 then wm_s_cold c (upd (wm_cold c) x.toNatClampNeg (1 - wm_cold c x.toNatClampNeg))
  else if what = 4 then wm_s_whistles c (upd (wm_whistles c) x.toNatClampNeg (1 - wm_whistles c x.toNatClampNeg))
  else ngM c 6
theorem ct_X7_happenN {h : Wd} {k : Nat} {c : Mod} {x wy : Int32} (hk : k + 24 < 76) : Ct mX7_happen [.ref k, .int 5, .int x, .int wy] (wm h k c) none (wm h k (hpn c 5 x wy)) := by
  refine Ct.of (Z := List.replicate 0 .null) (by decide) (Nat.le_of_ble_eq_true rfl) (fun z hz => List.eq_of_mem_replicate hz) ?_
  show WW mX7_happen 0 [.ref k, .int 5, .int x, .int wy] [] _ _ _
  refine r_iload_1 (pc := 0) dX7_happen_0 ?_
  refine r_tabOut (pc := 1) 122 dX7_happen_1 (Or.inr (by decide)) (by decide) ?_
  refine r_aload_0 (pc := 122) dX7_happen_122 ?_
  refine r_cV0_0 (pc := 123) (ct_X7_passNight hk) cv_X7_passNight ⟨Nat.le_of_ble_eq_true rfl, Nat.le_of_ble_eq_true rfl⟩ ml_X7_176 dX7_happen_123 (by omega) (wm_o _ _ _) rfl rfl (Nat.le_of_ble_eq_true rfl) ?_
  refine r_vret (pc := 126) dX7_happen_126 rfl rfl rfl
theorem ct_X7_happen {h : Wd} {k m : Nat} {c : Mod} {what wy : Int32} (hk : k + 24 < 76) (hm : m < 6) (hT : okT (wm_tent c)) : Ct mX7_happen [.ref k, .int what, .int (nI m), .int wy] (wm h k c) none (wm h k (hpn c what (nI m) wy)) := by
  obtain ⟨t, ht, et⟩ := hT m hm
  have em : (nI m).toNatClampNeg = m := ci hm (by decide)
  have en : (nI t).toNatClampNeg = t := ci ht (by decide)
  refine Ct.of (Z := List.replicate 0 .null) (by decide) (Nat.le_of_ble_eq_true rfl) (fun z hz => List.eq_of_mem_replicate hz) ?_
  show WW mX7_happen 0 [.ref k, .int what, .int (nI m), .int wy] [] _ _ _
  refine r_iload_1 (pc := 0) dX7_happen_0 ?_
  by_cases e1_0 : what = 0
  · refine r_tabIn (pc := 1) (off := 35) 0 36 dX7_happen_1 (by rw [e1_0]; decide) (by decide) (by decide) rfl (by decide) ?_
    refine r_aload_0 (pc := 36) dX7_happen_36 ?_
    refine r_wm_get_tent (pc := 37) hk fl_X7_16 dX7_happen_37 ?_
    refine r_iload_2 (pc := 40) dX7_happen_40 ?_
    refine r_dup2 (pc := 41) dX7_happen_41 rfl rfl ?_
    refine r_wm_ld_tent (pc := 42) hk (by omega) dX7_happen_42 ?_
    refine r_bipush (pc := 43) 8 dX7_happen_43 (by decide) ?_
    refine r_iload_3 (pc := 45) dX7_happen_45 ?_
    refine r_cS1_1 (pc := 46) (ct_X7_northBy) cs_X7_northBy ⟨Nat.le_of_ble_eq_true rfl, Nat.le_of_ble_eq_true rfl⟩ ml_X7_154 dX7_happen_46 rfl (Nat.le_of_ble_eq_true rfl) ?_
    refine r_imul (pc := 49) dX7_happen_49 ?_
    refine r_iload_3 (pc := 50) dX7_happen_50 ?_
    refine r_cS1_1 (pc := 51) (ct_X7_eastBy) cs_X7_eastBy ⟨Nat.le_of_ble_eq_true rfl, Nat.le_of_ble_eq_true rfl⟩ ml_X7_149 dX7_happen_51 rfl (Nat.le_of_ble_eq_true rfl) ?_
    refine r_iadd (pc := 54) dX7_happen_54 ?_
    refine r_iadd (pc := 55) dX7_happen_55 ?_
    refine r_wm_st_tent (pc := 56) hk (by omega) dX7_happen_56 ?_
    refine r_goto (pc := 57) 126 dX7_happen_57 (by decide) ?_
    refine r_vret (pc := 126) dX7_happen_126 rfl rfl (by simp only [hpn, e1_0, em]; rfl)
  by_cases e1_1 : what = 1
  · refine r_tabIn (pc := 1) (off := 59) 1 60 dX7_happen_1 (by rw [e1_1]; decide) (by decide) (by decide) rfl (by decide) ?_
    refine r_aload_0 (pc := 60) dX7_happen_60 ?_
    refine r_wm_get_knows (pc := 61) hk fl_X7_19 dX7_happen_61 ?_
    refine r_iload_2 (pc := 64) dX7_happen_64 ?_
    refine r_dup2 (pc := 65) dX7_happen_65 rfl rfl ?_
    refine r_wm_ld_knows (pc := 66) hk (by omega) dX7_happen_66 ?_
    refine r_lconst (pc := 67) 1 dX7_happen_67 (by decide) ?_
    refine r_aload_0 (pc := 68) dX7_happen_68 ?_
    refine r_wm_get_tent (pc := 69) hk fl_X7_16 dX7_happen_69 ?_
    refine r_iload_2 (pc := 72) dX7_happen_72 ?_
    refine r_wm_ld_tent (pc := 73) hk (by omega) dX7_happen_73 ?_
    rw [et]
    refine r_lshl (pc := 74) dX7_happen_74 ?_
    refine r_lor (pc := 75) dX7_happen_75 ?_
    refine r_wm_st_knows (pc := 76) hk (by omega) dX7_happen_76 ?_
    refine r_goto (pc := 77) 126 dX7_happen_77 (by decide) ?_
    refine r_vret (pc := 126) dX7_happen_126 rfl rfl (by simp only [hpn, e1_1, em, et, en]; rfl)
  by_cases e1_2 : what = 2
  · refine r_tabIn (pc := 1) (off := 79) 2 80 dX7_happen_1 (by rw [e1_2]; decide) (by decide) (by decide) rfl (by decide) ?_
    refine r_aload_0 (pc := 80) dX7_happen_80 ?_
    refine r_iload_2 (pc := 81) dX7_happen_81 ?_
    refine r_cV0_1 (pc := 82) (ct_X7_claimHere hk hm ht et) cv_X7_claimHere ⟨Nat.le_of_ble_eq_true rfl, Nat.le_of_ble_eq_true rfl⟩ ml_X7_172 dX7_happen_82 (by omega) (wm_o _ _ _) rfl rfl (Nat.le_of_ble_eq_true rfl) ?_
    refine r_goto (pc := 85) 126 dX7_happen_85 (by decide) ?_
    refine r_vret (pc := 126) dX7_happen_126 rfl rfl (by simp only [hpn, e1_2, em, et, en]; rfl)
  by_cases e1_3 : what = 3
  · refine r_tabIn (pc := 1) (off := 87) 3 88 dX7_happen_1 (by rw [e1_3]; decide) (by decide) (by decide) rfl (by decide) ?_
    refine r_aload_0 (pc := 88) dX7_happen_88 ?_
    refine r_wm_get_cold (pc := 89) hk fl_X7_23 dX7_happen_89 ?_
    refine r_iload_2 (pc := 92) dX7_happen_92 ?_
    refine r_iconst (pc := 93) 1 dX7_happen_93 (by decide) ?_
    refine r_aload_0 (pc := 94) dX7_happen_94 ?_
    refine r_wm_get_cold (pc := 95) hk fl_X7_23 dX7_happen_95 ?_
    refine r_iload_2 (pc := 98) dX7_happen_98 ?_
    refine r_wm_ld_cold (pc := 99) hk (by omega) dX7_happen_99 ?_
    refine r_isub (pc := 100) dX7_happen_100 ?_
    refine r_wm_st_cold (pc := 101) hk (by omega) dX7_happen_101 ?_
    refine r_goto (pc := 102) 126 dX7_happen_102 (by decide) ?_
    refine r_vret (pc := 126) dX7_happen_126 rfl rfl (by simp only [hpn, e1_3, em]; rfl)
  by_cases e1_4 : what = 4
  · refine r_tabIn (pc := 1) (off := 104) 4 105 dX7_happen_1 (by rw [e1_4]; decide) (by decide) (by decide) rfl (by decide) ?_
    refine r_aload_0 (pc := 105) dX7_happen_105 ?_
    refine r_wm_get_whistles (pc := 106) hk fl_X7_26 dX7_happen_106 ?_
    refine r_iload_2 (pc := 109) dX7_happen_109 ?_
    refine r_iconst (pc := 110) 1 dX7_happen_110 (by decide) ?_
    refine r_aload_0 (pc := 111) dX7_happen_111 ?_
    refine r_wm_get_whistles (pc := 112) hk fl_X7_26 dX7_happen_112 ?_
    refine r_iload_2 (pc := 115) dX7_happen_115 ?_
    refine r_wm_ld_whistles (pc := 116) hk (by omega) dX7_happen_116 ?_
    refine r_isub (pc := 117) dX7_happen_117 ?_
    refine r_wm_st_whistles (pc := 118) hk (by omega) dX7_happen_118 ?_
    refine r_goto (pc := 119) 126 dX7_happen_119 (by decide) ?_
    refine r_vret (pc := 126) dX7_happen_126 rfl rfl (by simp only [hpn, e1_4, em]; rfl)
  refine r_tabOut (pc := 1) 122 dX7_happen_1 (by have z0 := lv_neT (a := 0) e1_0 (by decide); have z1 := lv_neT (a := 1) e1_1 (by decide); have z2 := lv_neT (a := 2) e1_2 (by decide); have z3 := lv_neT (a := 3) e1_3 (by decide); have z4 := lv_neT (a := 4) e1_4 (by decide); omega) (by decide) ?_
  refine r_aload_0 (pc := 122) dX7_happen_122 ?_
  refine r_cV0_0 (pc := 123) (ct_X7_passNight hk) cv_X7_passNight ⟨Nat.le_of_ble_eq_true rfl, Nat.le_of_ble_eq_true rfl⟩ ml_X7_176 dX7_happen_123 (by omega) (wm_o _ _ _) rfl rfl (Nat.le_of_ble_eq_true rfl) ?_
  refine r_vret (pc := 126) dX7_happen_126 rfl rfl (by simp only [hpn, if_neg e1_0, if_neg e1_1, if_neg e1_2, if_neg e1_3, if_neg e1_4])
def kp1 (c : Mod) : Nat → Mod
  | 0 => c
  | m + 1 => wm_s_hadKnown (wm_s_had (kp1 c m) (upd (upd (upd (upd (wm_had (kp1 c m)) m (wm_tent (kp1 c m) m)) (6 + m) (wm_cold (kp1 c m) m)) (12 + m) (wm_whistles (kp1 c m) m)) (18 + m) (wm_salt (kp1 c m) m))) (vp_updL (wm_hadKnown (kp1 c m)) m (wm_knows (kp1 c m) m))
def kp2 (c : Mod) : Nat → Mod
  | 0 => c
  | j + 1 => wm_s_had (kp2 c j) (upd (wm_had (kp2 c j)) (24 + j) (wm_owner (kp2 c j) j))
theorem lp_X7_kp2 {h : Wd} {k : Nat} {c : Mod} (hk : k + 24 < 76) : ∀ n j, j + n = 64 → WW mX7_keepNow 85 [.ref k, .int (nI j)] [] (wm h k (kp2 c j)) none (wm h k (kp2 c 64)) := by
  intro n
  induction n with
  | zero =>
    intro j hj
    obtain rfl : j = 64 := by omega
    refine r_iload_1 (pc := 85) dX7_keepNow_85 ?_
    refine r_bipush (pc := 86) 64 dX7_keepNow_86 (by decide) ?_
    refine r_icmp_ge (pc := 88) 112 dX7_keepNow_88 (by decide) (fun _ => ?_) (fun c88 => absurd (nI_le (a := 64) (b := 64) (by omega) (by omega)) (c88))
    refine r_vret (pc := 112) dX7_keepNow_112 rfl rfl rfl
  | succ n ih =>
    intro j hj
    refine r_iload_1 (pc := 85) dX7_keepNow_85 ?_
    refine r_bipush (pc := 86) 64 dX7_keepNow_86 (by decide) ?_
    refine r_icmp_ge (pc := 88) 112 dX7_keepNow_88 (by decide) (fun c88 => absurd c88 (nI_ge (a := j) (b := 64) (by omega) (by decide))) (fun _ => ?_)
    refine r_aload_0 (pc := 91) dX7_keepNow_91 ?_
    refine r_wm_get_had (pc := 92) hk fl_X7_59 dX7_keepNow_92 ?_
    refine r_bipush (pc := 95) 24 dX7_keepNow_95 (by decide) ?_
    refine r_iload_1 (pc := 97) dX7_keepNow_97 ?_
    refine r_iadd (pc := 98) dX7_keepNow_98 ?_
    rw [show (24 : Int32) + nI j = nI (24 + j) from nI_add 24 j]
    refine r_aload_0 (pc := 99) dX7_keepNow_99 ?_
    refine r_wm_get_owner (pc := 100) hk fl_X7_13 dX7_keepNow_100 ?_
    refine r_iload_1 (pc := 103) dX7_keepNow_103 ?_
    refine r_wm_ld_owner (pc := 104) hk (by omega) dX7_keepNow_104 ?_
    refine r_wm_st_had (pc := 105) hk (by omega) dX7_keepNow_105 ?_
    refine r_inc_1 (pc := 106) dX7_keepNow_106 rfl (by decide) ?_
    refine r_goto (pc := 109) 85 dX7_keepNow_109 (by decide) ?_
    exact ih (j + 1) (by omega)
theorem lp_X7_kp1 {h : Wd} {k : Nat} {c : Mod} (hk : k + 24 < 76) : ∀ n j, j + n = 6 → WW mX7_keepNow 2 [.ref k, .int (nI j)] [] (wm h k (kp1 c j)) none (wm h k (kp2 (kp1 c 6) 64)) := by
  intro n
  induction n with
  | zero =>
    intro j hj
    obtain rfl : j = 6 := by omega
    refine r_iload_1 (pc := 2) dX7_keepNow_2 ?_
    refine r_bipush (pc := 3) 6 dX7_keepNow_3 (by decide) ?_
    refine r_icmp_ge (pc := 5) 83 dX7_keepNow_5 (by decide) (fun _ => ?_) (fun c5 => absurd (nI_le (a := 6) (b := 6) (by omega) (by omega)) (c5))
    refine r_iconst (pc := 83) 0 dX7_keepNow_83 (by decide) ?_
    refine r_istore_1 (pc := 84) dX7_keepNow_84 rfl (by decide) ?_
    exact lp_X7_kp2 hk 64 0 rfl
  | succ n ih =>
    intro j hj
    refine r_iload_1 (pc := 2) dX7_keepNow_2 ?_
    refine r_bipush (pc := 3) 6 dX7_keepNow_3 (by decide) ?_
    refine r_icmp_ge (pc := 5) 83 dX7_keepNow_5 (by decide) (fun c5 => absurd c5 (nI_ge (a := j) (b := 6) (by omega) (by decide))) (fun _ => ?_)
    refine r_aload_0 (pc := 8) dX7_keepNow_8 ?_
    refine r_wm_get_had (pc := 9) hk fl_X7_59 dX7_keepNow_9 ?_
    refine r_iload_1 (pc := 12) dX7_keepNow_12 ?_
    refine r_aload_0 (pc := 13) dX7_keepNow_13 ?_
    refine r_wm_get_tent (pc := 14) hk fl_X7_16 dX7_keepNow_14 ?_
    refine r_iload_1 (pc := 17) dX7_keepNow_17 ?_
    refine r_wm_ld_tent (pc := 18) hk (by omega) dX7_keepNow_18 ?_
    refine r_wm_st_had (pc := 19) hk (by omega) dX7_keepNow_19 ?_
    refine r_aload_0 (pc := 20) dX7_keepNow_20 ?_
    refine r_wm_get_had (pc := 21) hk fl_X7_59 dX7_keepNow_21 ?_
    refine r_bipush (pc := 24) 6 dX7_keepNow_24 (by decide) ?_
    refine r_iload_1 (pc := 26) dX7_keepNow_26 ?_
    refine r_iadd (pc := 27) dX7_keepNow_27 ?_
    rw [show (6 : Int32) + nI j = nI (6 + j) from nI_add 6 j]
    refine r_aload_0 (pc := 28) dX7_keepNow_28 ?_
    refine r_wm_get_cold (pc := 29) hk fl_X7_23 dX7_keepNow_29 ?_
    refine r_iload_1 (pc := 32) dX7_keepNow_32 ?_
    refine r_wm_ld_cold (pc := 33) hk (by omega) dX7_keepNow_33 ?_
    refine r_wm_st_had (pc := 34) hk (by omega) dX7_keepNow_34 ?_
    refine r_aload_0 (pc := 35) dX7_keepNow_35 ?_
    refine r_wm_get_had (pc := 36) hk fl_X7_59 dX7_keepNow_36 ?_
    refine r_bipush (pc := 39) 12 dX7_keepNow_39 (by decide) ?_
    refine r_iload_1 (pc := 41) dX7_keepNow_41 ?_
    refine r_iadd (pc := 42) dX7_keepNow_42 ?_
    rw [show (12 : Int32) + nI j = nI (12 + j) from nI_add 12 j]
    refine r_aload_0 (pc := 43) dX7_keepNow_43 ?_
    refine r_wm_get_whistles (pc := 44) hk fl_X7_26 dX7_keepNow_44 ?_
    refine r_iload_1 (pc := 47) dX7_keepNow_47 ?_
    refine r_wm_ld_whistles (pc := 48) hk (by omega) dX7_keepNow_48 ?_
    refine r_wm_st_had (pc := 49) hk (by omega) dX7_keepNow_49 ?_
    refine r_aload_0 (pc := 50) dX7_keepNow_50 ?_
    refine r_wm_get_had (pc := 51) hk fl_X7_59 dX7_keepNow_51 ?_
    refine r_bipush (pc := 54) 18 dX7_keepNow_54 (by decide) ?_
    refine r_iload_1 (pc := 56) dX7_keepNow_56 ?_
    refine r_iadd (pc := 57) dX7_keepNow_57 ?_
    rw [show (18 : Int32) + nI j = nI (18 + j) from nI_add 18 j]
    refine r_aload_0 (pc := 58) dX7_keepNow_58 ?_
    refine r_wm_get_salt (pc := 59) hk fl_X7_29 dX7_keepNow_59 ?_
    refine r_iload_1 (pc := 62) dX7_keepNow_62 ?_
    refine r_wm_ld_salt (pc := 63) hk (by omega) dX7_keepNow_63 ?_
    refine r_wm_st_had (pc := 64) hk (by omega) dX7_keepNow_64 ?_
    refine r_aload_0 (pc := 65) dX7_keepNow_65 ?_
    refine r_wm_get_hadKnown (pc := 66) hk fl_X7_62 dX7_keepNow_66 ?_
    refine r_iload_1 (pc := 69) dX7_keepNow_69 ?_
    refine r_aload_0 (pc := 70) dX7_keepNow_70 ?_
    refine r_wm_get_knows (pc := 71) hk fl_X7_19 dX7_keepNow_71 ?_
    refine r_iload_1 (pc := 74) dX7_keepNow_74 ?_
    refine r_wm_ld_knows (pc := 75) hk (by omega) dX7_keepNow_75 ?_
    refine r_wm_st_hadKnown (pc := 76) hk (by omega) dX7_keepNow_76 ?_
    refine r_inc_1 (pc := 77) dX7_keepNow_77 rfl (by decide) ?_
    refine r_goto (pc := 80) 2 dX7_keepNow_80 (by decide) ?_
    exact ih (j + 1) (by omega)
def kpM (c : Mod) : Mod := kp2 (kp1 c 6) 64
theorem ct_X7_keepNow {h : Wd} {k : Nat} {c : Mod} (hk : k + 24 < 76) : Ct mX7_keepNow [.ref k] (wm h k c) none (wm h k (kpM c)) := by
  refine Ct.of (Z := List.replicate 1 .null) (by decide) (Nat.le_of_ble_eq_true rfl) (fun z hz => List.eq_of_mem_replicate hz) ?_
  show WW mX7_keepNow 0 [.ref k, .null] [] _ _ _
  refine r_iconst (pc := 0) 0 dX7_keepNow_0 (by decide) ?_
  refine r_istore_1 (pc := 1) dX7_keepNow_1 rfl (by decide) ?_
  exact lp_X7_kp1 (c := c) hk 6 0 rfl
def bk1 (c : Mod) : Nat → Mod
  | 0 => c
  | m + 1 => wm_s_knows (wm_s_salt (wm_s_whistles (wm_s_cold (wm_s_tent (bk1 c m) (upd (wm_tent (bk1 c m)) m (wm_had (bk1 c m) m))) (upd (wm_cold (bk1 c m)) m (wm_had (bk1 c m) (6 + m)))) (upd (wm_whistles (bk1 c m)) m (wm_had (bk1 c m) (12 + m)))) (upd (wm_salt (bk1 c m)) m (wm_had (bk1 c m) (18 + m)))) (vp_updL (wm_knows (bk1 c m)) m (wm_hadKnown (bk1 c m) m))
def bk2 (c : Mod) : Nat → Mod
  | 0 => c
  | j + 1 => wm_s_owner (bk2 c j) (upd (wm_owner (bk2 c j)) j (wm_had (bk2 c j) (24 + j)))
def bkM (c : Mod) : Mod := bk2 (bk1 c 6) 64
theorem lp_X7_bk2 {h : Wd} {k : Nat} {c : Mod} {v : Int32} (hk : k + 24 < 76) : ∀ n j, j + n = 64 → WW mX7_back 85 [.ref k, .int v, .int (nI j)] [] (wm h k (bk2 c j)) (some (.int v)) (wm h k (bk2 c 64)) := by
  intro n
  induction n with
  | zero =>
    intro j hj
    obtain rfl : j = 64 := by omega
    refine r_iload_2 (pc := 85) dX7_back_85 ?_
    refine r_bipush (pc := 86) 64 dX7_back_86 (by decide) ?_
    refine r_icmp_ge (pc := 88) 112 dX7_back_88 (by decide) (fun _ => ?_) (fun c88 => absurd (nI_le (a := 64) (b := 64) (by omega) (by omega)) (c88))
    refine r_iload_1 (pc := 112) dX7_back_112 ?_
    refine r_iret (pc := 113) dX7_back_113 rfl (by first | rfl | simp_all [bI]) rfl
  | succ n ih =>
    intro j hj
    refine r_iload_2 (pc := 85) dX7_back_85 ?_
    refine r_bipush (pc := 86) 64 dX7_back_86 (by decide) ?_
    refine r_icmp_ge (pc := 88) 112 dX7_back_88 (by decide) (fun c88 => absurd c88 (nI_ge (a := j) (b := 64) (by omega) (by decide))) (fun _ => ?_)
    refine r_aload_0 (pc := 91) dX7_back_91 ?_
    refine r_wm_get_owner (pc := 92) hk fl_X7_13 dX7_back_92 ?_
    refine r_iload_2 (pc := 95) dX7_back_95 ?_
    refine r_aload_0 (pc := 96) dX7_back_96 ?_
    refine r_wm_get_had (pc := 97) hk fl_X7_59 dX7_back_97 ?_
    refine r_bipush (pc := 100) 24 dX7_back_100 (by decide) ?_
    refine r_iload_2 (pc := 102) dX7_back_102 ?_
    refine r_iadd (pc := 103) dX7_back_103 ?_
    rw [show (24 : Int32) + nI j = nI (24 + j) from nI_add 24 j]
    refine r_wm_ld_had (pc := 104) hk (by omega) dX7_back_104 ?_
    refine r_wm_st_owner (pc := 105) hk (by omega) dX7_back_105 ?_
    refine r_inc_2 (pc := 106) dX7_back_106 rfl (by decide) ?_
    refine r_goto (pc := 109) 85 dX7_back_109 (by decide) ?_
    exact ih (j + 1) (by omega)
theorem lp_X7_bk1 {h : Wd} {k : Nat} {c : Mod} {v : Int32} (hk : k + 24 < 76) : ∀ n j, j + n = 6 → WW mX7_back 2 [.ref k, .int v, .int (nI j)] [] (wm h k (bk1 c j)) (some (.int v)) (wm h k (bkM c)) := by
  intro n
  induction n with
  | zero =>
    intro j hj
    obtain rfl : j = 6 := by omega
    refine r_iload_2 (pc := 2) dX7_back_2 ?_
    refine r_bipush (pc := 3) 6 dX7_back_3 (by decide) ?_
    refine r_icmp_ge (pc := 5) 83 dX7_back_5 (by decide) (fun _ => ?_) (fun c5 => absurd (nI_le (a := 6) (b := 6) (by omega) (by omega)) (c5))
    refine r_iconst (pc := 83) 0 dX7_back_83 (by decide) ?_
    refine r_istore_2 (pc := 84) dX7_back_84 rfl (by decide) ?_
    exact lp_X7_bk2 hk 64 0 rfl
  | succ n ih =>
    intro j hj
    refine r_iload_2 (pc := 2) dX7_back_2 ?_
    refine r_bipush (pc := 3) 6 dX7_back_3 (by decide) ?_
    refine r_icmp_ge (pc := 5) 83 dX7_back_5 (by decide) (fun c5 => absurd c5 (nI_ge (a := j) (b := 6) (by omega) (by decide))) (fun _ => ?_)
    refine r_aload_0 (pc := 8) dX7_back_8 ?_
    refine r_wm_get_tent (pc := 9) hk fl_X7_16 dX7_back_9 ?_
    refine r_iload_2 (pc := 12) dX7_back_12 ?_
    refine r_aload_0 (pc := 13) dX7_back_13 ?_
    refine r_wm_get_had (pc := 14) hk fl_X7_59 dX7_back_14 ?_
    refine r_iload_2 (pc := 17) dX7_back_17 ?_
    refine r_wm_ld_had (pc := 18) hk (by omega) dX7_back_18 ?_
    refine r_wm_st_tent (pc := 19) hk (by omega) dX7_back_19 ?_
    refine r_aload_0 (pc := 20) dX7_back_20 ?_
    refine r_wm_get_cold (pc := 21) hk fl_X7_23 dX7_back_21 ?_
    refine r_iload_2 (pc := 24) dX7_back_24 ?_
    refine r_aload_0 (pc := 25) dX7_back_25 ?_
    refine r_wm_get_had (pc := 26) hk fl_X7_59 dX7_back_26 ?_
    refine r_bipush (pc := 29) 6 dX7_back_29 (by decide) ?_
    refine r_iload_2 (pc := 31) dX7_back_31 ?_
    refine r_iadd (pc := 32) dX7_back_32 ?_
    rw [show (6 : Int32) + nI j = nI (6 + j) from nI_add 6 j]
    refine r_wm_ld_had (pc := 33) hk (by omega) dX7_back_33 ?_
    refine r_wm_st_cold (pc := 34) hk (by omega) dX7_back_34 ?_
    refine r_aload_0 (pc := 35) dX7_back_35 ?_
    refine r_wm_get_whistles (pc := 36) hk fl_X7_26 dX7_back_36 ?_
    refine r_iload_2 (pc := 39) dX7_back_39 ?_
    refine r_aload_0 (pc := 40) dX7_back_40 ?_
    refine r_wm_get_had (pc := 41) hk fl_X7_59 dX7_back_41 ?_
    refine r_bipush (pc := 44) 12 dX7_back_44 (by decide) ?_
    refine r_iload_2 (pc := 46) dX7_back_46 ?_
    refine r_iadd (pc := 47) dX7_back_47 ?_
    rw [show (12 : Int32) + nI j = nI (12 + j) from nI_add 12 j]
    refine r_wm_ld_had (pc := 48) hk (by omega) dX7_back_48 ?_
    refine r_wm_st_whistles (pc := 49) hk (by omega) dX7_back_49 ?_
    refine r_aload_0 (pc := 50) dX7_back_50 ?_
    refine r_wm_get_salt (pc := 51) hk fl_X7_29 dX7_back_51 ?_
    refine r_iload_2 (pc := 54) dX7_back_54 ?_
    refine r_aload_0 (pc := 55) dX7_back_55 ?_
    refine r_wm_get_had (pc := 56) hk fl_X7_59 dX7_back_56 ?_
    refine r_bipush (pc := 59) 18 dX7_back_59 (by decide) ?_
    refine r_iload_2 (pc := 61) dX7_back_61 ?_
    refine r_iadd (pc := 62) dX7_back_62 ?_
    rw [show (18 : Int32) + nI j = nI (18 + j) from nI_add 18 j]
    refine r_wm_ld_had (pc := 63) hk (by omega) dX7_back_63 ?_
    refine r_wm_st_salt (pc := 64) hk (by omega) dX7_back_64 ?_
    refine r_aload_0 (pc := 65) dX7_back_65 ?_
    refine r_wm_get_knows (pc := 66) hk fl_X7_19 dX7_back_66 ?_
    refine r_iload_2 (pc := 69) dX7_back_69 ?_
    refine r_aload_0 (pc := 70) dX7_back_70 ?_
    refine r_wm_get_hadKnown (pc := 71) hk fl_X7_62 dX7_back_71 ?_
    refine r_iload_2 (pc := 74) dX7_back_74 ?_
    refine r_wm_ld_hadKnown (pc := 75) hk (by omega) dX7_back_75 ?_
    refine r_wm_st_knows (pc := 76) hk (by omega) dX7_back_76 ?_
    refine r_inc_2 (pc := 77) dX7_back_77 rfl (by decide) ?_
    refine r_goto (pc := 80) 2 dX7_back_80 (by decide) ?_
    exact ih (j + 1) (by omega)
theorem ct_X7_back {h : Wd} {k : Nat} {c : Mod} {v : Int32} (hk : k + 24 < 76) : Ct mX7_back [.ref k, .int v] (wm h k c) (some (.int v)) (wm h k (bkM c)) := by
  refine Ct.of (Z := List.replicate 1 .null) (by decide) (Nat.le_of_ble_eq_true rfl) (fun z hz => List.eq_of_mem_replicate hz) ?_
  show WW mX7_back 0 [.ref k, .int v, .null] [] _ _ _
  refine r_iconst (pc := 0) 0 dX7_back_0 (by decide) ?_
  refine r_istore_2 (pc := 1) dX7_back_1 rfl (by decide) ?_
  exact lp_X7_bk1 (c := c) hk 6 0 rfl
