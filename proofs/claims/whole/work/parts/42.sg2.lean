/-! SnoresGold: the weeks -/
theorem is01_R (x : Int32) : is01 x = inR x 0 1 := by
  refine decide_eq_decide.mpr ⟨fun h => ?_, fun h => ?_⟩
  · rcases h with rfl | rfl <;> decide
  · have h1 := Int32.le_iff_toInt_le.mp h.1
    have h2 := Int32.le_iff_toInt_le.mp h.2
    rw [show (0 : Int32).toInt = 0 from rfl] at h1
    rw [show (1 : Int32).toInt = 1 from rfl] at h2
    by_cases e : x.toInt = 0
    · exact Or.inl (Int32.toInt_inj.mp e)
    · exact Or.inr (Int32.toInt_inj.mp (show x.toInt = 1 by omega))
theorem nI_n6 : ∀ j, j < 64 → ¬ nI j = -6 := by decide
def pwC (S : SG) : Camp := cpC S.ahead S.now.camp
def pwR (S : SG) (n : Nat) : Week × Camp := plr (wp_signs S.pad) n n (w0 S.week, pwC S)
def pwG (S : SG) (n : Nat) : SG := ((S.sa (pwC S)).sa (pwR S n).2).sw (pwR S n).1
def pwS (S : SG) (n : Nat) : SG := if flt (wp_signs S.pad) n = -6 then pwG S n else S
def pwV (S : SG) (n : Nat) : Int32 := if flt (wp_signs S.pad) n = -6 then (if wk_bad (pwR S n).1 = -6 then 0 else -3) else -5
theorem ct_X6_playWeeks {h : Wd} {S : SG} {n : Nat} (hc : wp_count S.pad = nI n) (hn : n ≤ 60) (hT : okT (wc_tents S.now.camp)) : Ct mX6_playWeeks [.ref 0] (wx h S) (some (.int (pwV S n))) (wx h (pwS S n)) := by
  have cA : Ct mX0_copyFrom [.ref 11, .ref 18] (wx h S) none (wx h (S.sa (pwC S))) := (ct_X0_copyFrom (k := 11) (k2 := 18) (by decide) (by decide) (by decide)).at (by rw [sXc1, sXa]) (by rw [sXc1, uXa]; rfl)
  have hT2 : okT (wc_tents (pwC S)) := by
    intro m hm
    have e : wc_tents (pwC S) m = wc_tents S.now.camp m := if_pos hm
    rw [e]
    exact hT m hm
  have eP : wp (wx h (S.sa (pwC S))) 4 S.pad = wx h (S.sa (pwC S)) := sXp (S := S.sa (pwC S))
  have eA : wc (wx h (S.sa (pwC S))) 11 (pwC S) = wx h (S.sa (pwC S)) := sXa (S := S.sa (pwC S))
  have eW : wk (wx h (S.sa (pwC S))) 6 S.week = wx h (S.sa (pwC S)) := sXw (S := S.sa (pwC S))
  have cP : flt (wp_signs S.pad) n = -6 → Ct mX5_play [.ref 6, .ref 4, .ref 11] (wx h (S.sa (pwC S))) none (wx h (pwG S n)) := fun hf =>
    (ct_X5_play (h := wx h (S.sa (pwC S))) (kw := 6) (kp := 4) (kc := 11) (p := S.pad) (w := S.week) (c := pwC S) (by decide) (by decide) (by decide) (by decide) (by decide) (by decide) hc hn hf hT2).at (by rw [eP, eA, eW]) (by rw [eP, uXa, uXw]; rfl)
  refine Ct.of (Z := List.replicate 0 .null) (by decide) (Nat.le_of_ble_eq_true rfl) (fun z hz => List.eq_of_mem_replicate hz) ?_
  show WW mX6_playWeeks 0 [.ref 0] [] _ _ _
  refine r_aload_0 (pc := 0) dX6_playWeeks_0 ?_
  refine r_f_X6_pad (pc := 1) fl_X6_25 dX6_playWeeks_1 ?_
  refine r_cV1_0 (pc := 4) ((ct_X2_firstFault (by decide) hc hn).at sXp sXp) cv_X2_firstFault ⟨Nat.le_of_ble_eq_true rfl, Nat.le_of_ble_eq_true rfl⟩ ml_X6_121 dX6_playWeeks_4 (by decide) rfl rfl rfl (Nat.le_of_ble_eq_true rfl) ?_
  refine r_bipush (pc := 7) (-6) dX6_playWeeks_7 (by decide) ?_
  refine r_icmp_eq (pc := 9) 15 dX6_playWeeks_9 (by decide) (fun c9 => ?_) (fun c9 => ?_)
  · refine r_aload_0 (pc := 15) dX6_playWeeks_15 ?_
    refine r_f_X6_ahead (pc := 16) fl_X6_39 dX6_playWeeks_16 ?_
    refine r_aload_0 (pc := 19) dX6_playWeeks_19 ?_
    refine r_f_X6_now (pc := 20) fl_X6_10 dX6_playWeeks_20 ?_
    refine r_g_X1_camp (pc := 23) (List.mem_of_getElem? (i := 0) rfl) dX6_playWeeks_23 ?_
    refine r_cV0_1 (pc := 26) (cA) cv_X0_copyFrom ⟨Nat.le_of_ble_eq_true rfl, Nat.le_of_ble_eq_true rfl⟩ ml_X6_166 dX6_playWeeks_26 (by decide) rfl rfl rfl (Nat.le_of_ble_eq_true rfl) ?_
    refine r_aload_0 (pc := 29) dX6_playWeeks_29 ?_
    refine r_f_X6_week (pc := 30) fl_X6_32 dX6_playWeeks_30 ?_
    refine r_aload_0 (pc := 33) dX6_playWeeks_33 ?_
    refine r_f_X6_pad (pc := 34) fl_X6_25 dX6_playWeeks_34 ?_
    refine r_aload_0 (pc := 37) dX6_playWeeks_37 ?_
    refine r_f_X6_ahead (pc := 38) fl_X6_39 dX6_playWeeks_38 ?_
    refine r_cV0_2 (pc := 41) (cP c9) cv_X5_play ⟨Nat.le_of_ble_eq_true rfl, Nat.le_of_ble_eq_true rfl⟩ ml_X6_173 dX6_playWeeks_41 (by decide) rfl rfl rfl (Nat.le_of_ble_eq_true rfl) ?_
    refine r_aload_0 (pc := 44) dX6_playWeeks_44 ?_
    refine r_f_X6_week (pc := 45) fl_X6_32 dX6_playWeeks_45 ?_
    refine r_cV1_0 (pc := 48) ((ct_X5_badAct (by decide)).at sXw sXw) cv_X5_badAct ⟨Nat.le_of_ble_eq_true rfl, Nat.le_of_ble_eq_true rfl⟩ ml_X6_127 dX6_playWeeks_48 (by decide) rfl rfl rfl (Nat.le_of_ble_eq_true rfl) ?_
    refine r_bipush (pc := 51) (-6) dX6_playWeeks_51 (by decide) ?_
    refine r_icmp_ne (pc := 53) 60 dX6_playWeeks_53 (by decide) (fun c53 => ?_) (fun c53 => ?_)
    · refine r_bipush (pc := 60) (-3) dX6_playWeeks_60 (by decide) ?_
      refine r_iret (pc := 62) dX6_playWeeks_62 rfl (by rw [pwV, if_pos c9, if_neg (show ¬ wk_bad (pwR S n).1 = -6 from c53)]) (by rw [pwS, if_pos c9])
    · refine r_iconst (pc := 56) 0 dX6_playWeeks_56 (by decide) ?_
      refine r_goto (pc := 57) 62 dX6_playWeeks_57 (by decide) ?_
      refine r_iret (pc := 62) dX6_playWeeks_62 rfl (by rw [pwV, if_pos c9, if_pos (show wk_bad (pwR S n).1 = -6 from c53)]) (by rw [pwS, if_pos c9])
  · refine r_bipush (pc := 12) (-5) dX6_playWeeks_12 (by decide) ?_
    refine r_iret (pc := 14) dX6_playWeeks_14 rfl (by rw [pwV, if_neg c9]) (by rw [pwS, if_neg c9])
theorem ct_X6_judgeB {h : Wd} {S : SG} {x : Int32} (hb : inR x 0 2 = false) : Ct mX6_judge [.ref 0, .int x] (wx h S) (some (.int (-2))) (wx h S) := by
  refine Ct.of (Z := List.replicate 1 .null) (by decide) (Nat.le_of_ble_eq_true rfl) (fun z hz => List.eq_of_mem_replicate hz) ?_
  show WW mX6_judge 0 [.ref 0, .int x, .null] [] _ _ _
  refine r_iload_1 (pc := 0) dX6_judge_0 ?_
  refine r_iconst (pc := 1) 0 dX6_judge_1 (by decide) ?_
  refine r_iconst (pc := 2) 2 dX6_judge_2 (by decide) ?_
  refine r_cS1_3 (pc := 3) (ct_X6_isWithin) cs_X6_isWithin ⟨Nat.le_of_ble_eq_true rfl, Nat.le_of_ble_eq_true rfl⟩ ml_X6_60 dX6_judge_3 rfl (Nat.le_of_ble_eq_true rfl) ?_
  refine r_if_ne (pc := 6) 12 dX6_judge_6 (by decide) (fun c6 => absurd (by rw [hb]; rfl) c6) (fun _ => ?_)
  refine r_bipush (pc := 9) (-2) dX6_judge_9 (by decide) ?_
  refine r_iret (pc := 11) dX6_judge_11 rfl (by first | rfl | simp_all [bI]) rfl
def jdV (T : SG) (v x : Int32) : Int32 := if v = -5 ∨ (v = -3 ∧ x = 2) then v else if x = 0 then wk_bad T.week else if x = 1 then wk_reason T.week else wc_womans T.ahead
theorem ct_X6_judge {h : Wd} {S : SG} {n : Nat} {x : Int32} (hb : inR x 0 2 = true) (hc : wp_count S.pad = nI n) (hn : n ≤ 60) (hT : okT (wc_tents S.now.camp)) : Ct mX6_judge [.ref 0, .int x] (wx h S) (some (.int (jdV (pwS S n) (pwV S n) x))) (wx h (pwS S n)) := by
  have tail : ¬ (pwV S n = -5 ∨ (pwV S n = -3 ∧ x = 2)) → ∀ z : Value, WW mX6_judge 36 [.ref 0, .int x, z] [] (wx h (pwS S n)) (some (.int (jdV (pwS S n) (pwV S n) x))) (wx h (pwS S n)) := by
    intro hv z
    refine r_iload_1 (pc := 36) dX6_judge_36 ?_
    by_cases e37_0 : x = 0
    · refine r_look (pc := 37) (off := 27) 64 dX6_judge_37 (by decide) (by rw [e37_0]; decide) (by decide) ?_
      refine r_aload_0 (pc := 64) dX6_judge_64 ?_
      refine r_f_X6_week (pc := 65) fl_X6_32 dX6_judge_65 ?_
      refine r_cV1_0 (pc := 68) ((ct_X5_badAct (by decide)).at sXw sXw) cv_X5_badAct ⟨Nat.le_of_ble_eq_true rfl, Nat.le_of_ble_eq_true rfl⟩ ml_X6_127 dX6_judge_68 (by decide) rfl rfl rfl (Nat.le_of_ble_eq_true rfl) ?_
      refine r_iret (pc := 71) dX6_judge_71 rfl (by rw [jdV, if_neg hv, if_pos e37_0]) rfl
    by_cases e37_1 : x = 1
    · refine r_look (pc := 37) (off := 35) 72 dX6_judge_37 (by decide) (by rw [e37_1]; decide) (by decide) ?_
      refine r_aload_0 (pc := 72) dX6_judge_72 ?_
      refine r_f_X6_week (pc := 73) fl_X6_32 dX6_judge_73 ?_
      refine r_cV1_0 (pc := 76) ((ct_X5_badReason (by decide)).at sXw sXw) cv_X5_badReason ⟨Nat.le_of_ble_eq_true rfl, Nat.le_of_ble_eq_true rfl⟩ ml_X6_130 dX6_judge_76 (by decide) rfl rfl rfl (Nat.le_of_ble_eq_true rfl) ?_
      refine r_iret (pc := 79) dX6_judge_79 rfl (by rw [jdV, if_neg hv, if_neg e37_0, if_pos e37_1]) rfl
    refine r_look (pc := 37) (off := 43) 80 dX6_judge_37 (by decide) (by show Op.lookupswitch.offset [(0, 27), (1, 35)] 43 _ = _; rw [lv_osw e37_0 (by decide), lv_osw e37_1 (by decide)]; rfl) (by decide) ?_
    refine r_aload_0 (pc := 80) dX6_judge_80 ?_
    refine r_f_X6_ahead (pc := 81) fl_X6_39 dX6_judge_81 ?_
    refine r_cV1_0 (pc := 84) ((ct_X0_womansShare (by decide)).at sXa sXa) cv_X0_womansShare ⟨Nat.le_of_ble_eq_true rfl, Nat.le_of_ble_eq_true rfl⟩ ml_X6_133 dX6_judge_84 (by decide) rfl rfl rfl (Nat.le_of_ble_eq_true rfl) ?_
    refine r_iret (pc := 87) dX6_judge_87 rfl (by rw [jdV, if_neg hv, if_neg e37_0, if_neg e37_1]) rfl
  refine Ct.of (Z := List.replicate 1 .null) (by decide) (Nat.le_of_ble_eq_true rfl) (fun z hz => List.eq_of_mem_replicate hz) ?_
  show WW mX6_judge 0 [.ref 0, .int x, .null] [] _ _ _
  refine r_iload_1 (pc := 0) dX6_judge_0 ?_
  refine r_iconst (pc := 1) 0 dX6_judge_1 (by decide) ?_
  refine r_iconst (pc := 2) 2 dX6_judge_2 (by decide) ?_
  refine r_cS1_3 (pc := 3) (ct_X6_isWithin) cs_X6_isWithin ⟨Nat.le_of_ble_eq_true rfl, Nat.le_of_ble_eq_true rfl⟩ ml_X6_60 dX6_judge_3 rfl (Nat.le_of_ble_eq_true rfl) ?_
  refine r_if_ne (pc := 6) 12 dX6_judge_6 (by decide) (fun _ => ?_) (fun c6 => absurd c6 (by rw [hb]; decide))
  refine r_aload_0 (pc := 12) dX6_judge_12 ?_
  refine r_cV1_0 (pc := 13) (ct_X6_playWeeks hc hn hT) cv_X6_playWeeks ⟨Nat.le_of_ble_eq_true rfl, Nat.le_of_ble_eq_true rfl⟩ ml_X6_124 dX6_judge_13 (by decide) rfl rfl rfl (Nat.le_of_ble_eq_true rfl) ?_
  refine r_istore_2 (pc := 16) dX6_judge_16 rfl (by decide) ?_
  refine r_iload_2 (pc := 17) dX6_judge_17 ?_
  refine r_bipush (pc := 18) (-5) dX6_judge_18 (by decide) ?_
  refine r_icmp_eq (pc := 20) 34 dX6_judge_20 (by decide) (fun c20 => ?_) (fun c20 => ?_)
  · refine r_iload_2 (pc := 34) dX6_judge_34 ?_
    refine r_iret (pc := 35) dX6_judge_35 rfl (by rw [jdV, if_pos (Or.inl c20)]) rfl
  · refine r_iload_2 (pc := 23) dX6_judge_23 ?_
    refine r_bipush (pc := 24) (-3) dX6_judge_24 (by decide) ?_
    refine r_icmp_ne (pc := 26) 36 dX6_judge_26 (by decide) (fun c26 => ?_) (fun c26 => ?_)
    · exact tail (fun z => z.elim c20 (fun q => c26 q.1)) _
    · refine r_iload_1 (pc := 29) dX6_judge_29 ?_
      refine r_iconst (pc := 30) 2 dX6_judge_30 (by decide) ?_
      refine r_icmp_ne (pc := 31) 36 dX6_judge_31 (by decide) (fun c31 => ?_) (fun c31 => ?_)
      · exact tail (fun z => z.elim c20 (fun q => c31 q.2)) _
      · refine r_iload_2 (pc := 34) dX6_judge_34 ?_
        refine r_iret (pc := 35) dX6_judge_35 rfl (by rw [jdV, if_pos (Or.inr ⟨c26, c31⟩)]) rfl
theorem ct_X6_behindB {h : Wd} {S : SG} {x y : Int32} (hb : hasB (wc_men S.now.camp) x = false) : Ct mX6_behind [.ref 0, .int x, .int y] (wx h S) (some (.int (-1))) (wx h S) := by
  refine Ct.of (Z := List.replicate 1 .null) (by decide) (Nat.le_of_ble_eq_true rfl) (fun z hz => List.eq_of_mem_replicate hz) ?_
  show WW mX6_behind 0 [.ref 0, .int x, .int y, .null] [] _ _ _
  refine r_aload_0 (pc := 0) dX6_behind_0 ?_
  refine r_f_X6_now (pc := 1) fl_X6_10 dX6_behind_1 ?_
  refine r_g_X1_camp (pc := 4) (List.mem_of_getElem? (i := 0) rfl) dX6_behind_4 ?_
  refine r_iload_1 (pc := 7) dX6_behind_7 ?_
  refine r_cV1_1 (pc := 8) ((ct_X0_isThere (by decide)).at sXc1 sXc1) cv_X0_isThere ⟨Nat.le_of_ble_eq_true rfl, Nat.le_of_ble_eq_true rfl⟩ ml_X6_85 dX6_behind_8 (by decide) rfl rfl rfl (Nat.le_of_ble_eq_true rfl) ?_
  refine r_if_ne (pc := 11) 16 dX6_behind_11 (by decide) (fun c11 => absurd (by rw [hb]; rfl) c11) (fun _ => ?_)
  refine r_iconst (pc := 14) (-1) dX6_behind_14 (by decide) ?_
  refine r_iret (pc := 15) dX6_behind_15 rfl (by first | rfl | simp_all [bI]) rfl
theorem ct_X6_behindO {h : Wd} {S : SG} {x y : Int32} (hb : hasB (wc_men S.now.camp) x = true) (hc : inR y 0 3 = false) : Ct mX6_behind [.ref 0, .int x, .int y] (wx h S) (some (.int (-2))) (wx h S) := by
  refine Ct.of (Z := List.replicate 1 .null) (by decide) (Nat.le_of_ble_eq_true rfl) (fun z hz => List.eq_of_mem_replicate hz) ?_
  show WW mX6_behind 0 [.ref 0, .int x, .int y, .null] [] _ _ _
  refine r_aload_0 (pc := 0) dX6_behind_0 ?_
  refine r_f_X6_now (pc := 1) fl_X6_10 dX6_behind_1 ?_
  refine r_g_X1_camp (pc := 4) (List.mem_of_getElem? (i := 0) rfl) dX6_behind_4 ?_
  refine r_iload_1 (pc := 7) dX6_behind_7 ?_
  refine r_cV1_1 (pc := 8) ((ct_X0_isThere (by decide)).at sXc1 sXc1) cv_X0_isThere ⟨Nat.le_of_ble_eq_true rfl, Nat.le_of_ble_eq_true rfl⟩ ml_X6_85 dX6_behind_8 (by decide) rfl rfl rfl (Nat.le_of_ble_eq_true rfl) ?_
  refine r_if_ne (pc := 11) 16 dX6_behind_11 (by decide) (fun _ => ?_) (fun c11 => absurd c11 (by rw [hb]; decide))
  refine r_iload_2 (pc := 16) dX6_behind_16 ?_
  refine r_iconst (pc := 17) 0 dX6_behind_17 (by decide) ?_
  refine r_iconst (pc := 18) 3 dX6_behind_18 (by decide) ?_
  refine r_cS1_3 (pc := 19) (ct_X6_isWithin) cs_X6_isWithin ⟨Nat.le_of_ble_eq_true rfl, Nat.le_of_ble_eq_true rfl⟩ ml_X6_60 dX6_behind_19 rfl (Nat.le_of_ble_eq_true rfl) ?_
  refine r_if_ne (pc := 22) 28 dX6_behind_22 (by decide) (fun c22 => absurd (by rw [hc]; rfl) c22) (fun _ => ?_)
  refine r_bipush (pc := 25) (-2) dX6_behind_25 (by decide) ?_
  refine r_iret (pc := 27) dX6_behind_27 rfl (by first | rfl | simp_all [bI]) rfl
def bhV (T : SG) (m : Nat) (v y : Int32) : Int32 := if v = 0 then (if y = 0 then wc_tents T.ahead m else if y = 1 then snC T.ahead m else if y = 2 then wc_salts T.ahead m else nI (cntC (wc_claimers T.ahead) (nI m))) else v
theorem ct_X6_behind {h : Wd} {S : SG} {n m : Nat} {y : Int32} (hm : m < 6) (hb : hasB (wc_men S.now.camp) (nI m) = true) (hy : inR y 0 3 = true) (hc : wp_count S.pad = nI n) (hn : n ≤ 60) (hT : okT (wc_tents S.now.camp)) : Ct mX6_behind [.ref 0, .int (nI m), .int y] (wx h S) (some (.int (bhV (pwS S n) m (pwV S n) y))) (wx h (pwS S n)) := by
  refine Ct.of (Z := List.replicate 1 .null) (by decide) (Nat.le_of_ble_eq_true rfl) (fun z hz => List.eq_of_mem_replicate hz) ?_
  show WW mX6_behind 0 [.ref 0, .int (nI m), .int y, .null] [] _ _ _
  refine r_aload_0 (pc := 0) dX6_behind_0 ?_
  refine r_f_X6_now (pc := 1) fl_X6_10 dX6_behind_1 ?_
  refine r_g_X1_camp (pc := 4) (List.mem_of_getElem? (i := 0) rfl) dX6_behind_4 ?_
  refine r_iload_1 (pc := 7) dX6_behind_7 ?_
  refine r_cV1_1 (pc := 8) ((ct_X0_isThere (by decide)).at sXc1 sXc1) cv_X0_isThere ⟨Nat.le_of_ble_eq_true rfl, Nat.le_of_ble_eq_true rfl⟩ ml_X6_85 dX6_behind_8 (by decide) rfl rfl rfl (Nat.le_of_ble_eq_true rfl) ?_
  refine r_if_ne (pc := 11) 16 dX6_behind_11 (by decide) (fun _ => ?_) (fun c11 => absurd c11 (by rw [hb]; decide))
  refine r_iload_2 (pc := 16) dX6_behind_16 ?_
  refine r_iconst (pc := 17) 0 dX6_behind_17 (by decide) ?_
  refine r_iconst (pc := 18) 3 dX6_behind_18 (by decide) ?_
  refine r_cS1_3 (pc := 19) (ct_X6_isWithin) cs_X6_isWithin ⟨Nat.le_of_ble_eq_true rfl, Nat.le_of_ble_eq_true rfl⟩ ml_X6_60 dX6_behind_19 rfl (Nat.le_of_ble_eq_true rfl) ?_
  refine r_if_ne (pc := 22) 28 dX6_behind_22 (by decide) (fun _ => ?_) (fun c22 => absurd c22 (by rw [hy]; decide))
  refine r_aload_0 (pc := 28) dX6_behind_28 ?_
  refine r_cV1_0 (pc := 29) (ct_X6_playWeeks hc hn hT) cv_X6_playWeeks ⟨Nat.le_of_ble_eq_true rfl, Nat.le_of_ble_eq_true rfl⟩ ml_X6_124 dX6_behind_29 (by decide) rfl rfl rfl (Nat.le_of_ble_eq_true rfl) ?_
  refine r_istore_3 (pc := 32) dX6_behind_32 rfl (by decide) ?_
  refine r_iload_3 (pc := 33) dX6_behind_33 ?_
  refine r_if_eq (pc := 34) 39 dX6_behind_34 (by decide) (fun c34 => ?_) (fun c34 => ?_)
  · refine r_iload_2 (pc := 39) dX6_behind_39 ?_
    by_cases e40_0 : y = 0
    · refine r_tabIn (pc := 40) (off := 28) 0 68 dX6_behind_40 (by rw [e40_0]; decide) (by decide) (by decide) rfl (by decide) ?_
      refine r_aload_0 (pc := 68) dX6_behind_68 ?_
      refine r_f_X6_ahead (pc := 69) fl_X6_39 dX6_behind_69 ?_
      refine r_iload_1 (pc := 72) dX6_behind_72 ?_
      refine r_cV1_1 (pc := 73) ((ct_X0_tentOf (by decide) hm).at sXa sXa) cv_X0_tentOf ⟨Nat.le_of_ble_eq_true rfl, Nat.le_of_ble_eq_true rfl⟩ ml_X6_136 dX6_behind_73 (by decide) rfl rfl rfl (Nat.le_of_ble_eq_true rfl) ?_
      refine r_iret (pc := 76) dX6_behind_76 rfl (by rw [bhV, if_pos c34, if_pos e40_0]) rfl
    by_cases e40_1 : y = 1
    · refine r_tabIn (pc := 40) (off := 37) 1 77 dX6_behind_40 (by rw [e40_1]; decide) (by decide) (by decide) rfl (by decide) ?_
      refine r_aload_0 (pc := 77) dX6_behind_77 ?_
      refine r_f_X6_ahead (pc := 78) fl_X6_39 dX6_behind_78 ?_
      refine r_iload_1 (pc := 81) dX6_behind_81 ?_
      refine r_cV1_1 (pc := 82) ((ct_X0_snoreOf (by decide) hm).at sXa sXa) cv_X0_snoreOf ⟨Nat.le_of_ble_eq_true rfl, Nat.le_of_ble_eq_true rfl⟩ ml_X6_139 dX6_behind_82 (by decide) rfl rfl rfl (Nat.le_of_ble_eq_true rfl) ?_
      refine r_iret (pc := 85) dX6_behind_85 rfl (by rw [bhV, if_pos c34, if_neg e40_0, if_pos e40_1]) rfl
    by_cases e40_2 : y = 2
    · refine r_tabIn (pc := 40) (off := 46) 2 86 dX6_behind_40 (by rw [e40_2]; decide) (by decide) (by decide) rfl (by decide) ?_
      refine r_aload_0 (pc := 86) dX6_behind_86 ?_
      refine r_f_X6_ahead (pc := 87) fl_X6_39 dX6_behind_87 ?_
      refine r_iload_1 (pc := 90) dX6_behind_90 ?_
      refine r_cV1_1 (pc := 91) ((ct_X0_saltOf (by decide) hm).at sXa sXa) cv_X0_saltOf ⟨Nat.le_of_ble_eq_true rfl, Nat.le_of_ble_eq_true rfl⟩ ml_X6_142 dX6_behind_91 (by decide) rfl rfl rfl (Nat.le_of_ble_eq_true rfl) ?_
      refine r_iret (pc := 94) dX6_behind_94 rfl (by rw [bhV, if_pos c34, if_neg e40_0, if_neg e40_1, if_pos e40_2]) rfl
    refine r_tabOut (pc := 40) 95 dX6_behind_40 (by have z0 := lv_neT (a := 0) e40_0 (by decide); have z1 := lv_neT (a := 1) e40_1 (by decide); have z2 := lv_neT (a := 2) e40_2 (by decide); omega) (by decide) ?_
    refine r_aload_0 (pc := 95) dX6_behind_95 ?_
    refine r_f_X6_ahead (pc := 96) fl_X6_39 dX6_behind_96 ?_
    refine r_iload_1 (pc := 99) dX6_behind_99 ?_
    refine r_cV1_1 (pc := 100) ((ct_X0_countClaimedBy (by decide)).at sXa sXa) cv_X0_countClaimedBy ⟨Nat.le_of_ble_eq_true rfl, Nat.le_of_ble_eq_true rfl⟩ ml_X6_145 dX6_behind_100 (by decide) rfl rfl rfl (Nat.le_of_ble_eq_true rfl) ?_
    refine r_iret (pc := 103) dX6_behind_103 rfl (by rw [bhV, if_pos c34, if_neg e40_0, if_neg e40_1, if_neg e40_2]) rfl
  · refine r_iload_3 (pc := 37) dX6_behind_37 ?_
    refine r_iret (pc := 38) dX6_behind_38 rfl (by rw [bhV, if_neg c34]) rfl
theorem ct_X6_heardB {h : Wd} {S : SG} {x : Int32} (hb : isC x = false) : Ct mX6_heard [.ref 0, .int x] (wx h S) (some (.int (-2))) (wx h S) := by
  refine Ct.of (Z := List.replicate 1 .null) (by decide) (Nat.le_of_ble_eq_true rfl) (fun z hz => List.eq_of_mem_replicate hz) ?_
  show WW mX6_heard 0 [.ref 0, .int x, .null] [] _ _ _
  refine r_iload_1 (pc := 0) dX6_heard_0 ?_
  refine r_cS1_1 (pc := 1) (ct_X6_isCell) cs_X6_isCell ⟨Nat.le_of_ble_eq_true rfl, Nat.le_of_ble_eq_true rfl⟩ ml_X6_56 dX6_heard_1 rfl (Nat.le_of_ble_eq_true rfl) ?_
  refine r_if_ne (pc := 4) 10 dX6_heard_4 (by decide) (fun c4 => absurd (by rw [hb]; rfl) c4) (fun _ => ?_)
  refine r_bipush (pc := 7) (-2) dX6_heard_7 (by decide) ?_
  refine r_iret (pc := 9) dX6_heard_9 rfl (by first | rfl | simp_all [bI]) rfl
def hdS (S : SG) (n : Nat) : SG := if pwV S n = 0 then (pwS S n).sa (lst (pwS S n).ahead) else pwS S n
def hdV (S : SG) (n : Nat) (x : Int32) : Int32 := if pwV S n = 0 then hrd (wc_men (pwS S n).ahead) (lsn (pwS S n).ahead 6) (wc_tents (pwS S n).ahead) (-1) x 6 else pwV S n
theorem ct_X6_heard {h : Wd} {S : SG} {n : Nat} {x : Int32} (hx : isC x = true) (hc : wp_count S.pad = nI n) (hn : n ≤ 60) (hT : okT (wc_tents S.now.camp)) : Ct mX6_heard [.ref 0, .int x] (wx h S) (some (.int (hdV S n x))) (wx h (hdS S n)) := by
  refine Ct.of (Z := List.replicate 1 .null) (by decide) (Nat.le_of_ble_eq_true rfl) (fun z hz => List.eq_of_mem_replicate hz) ?_
  show WW mX6_heard 0 [.ref 0, .int x, .null] [] _ _ _
  refine r_iload_1 (pc := 0) dX6_heard_0 ?_
  refine r_cS1_1 (pc := 1) (ct_X6_isCell) cs_X6_isCell ⟨Nat.le_of_ble_eq_true rfl, Nat.le_of_ble_eq_true rfl⟩ ml_X6_56 dX6_heard_1 rfl (Nat.le_of_ble_eq_true rfl) ?_
  refine r_if_ne (pc := 4) 10 dX6_heard_4 (by decide) (fun _ => ?_) (fun c4 => absurd c4 (by rw [hx]; decide))
  refine r_aload_0 (pc := 10) dX6_heard_10 ?_
  refine r_cV1_0 (pc := 11) (ct_X6_playWeeks hc hn hT) cv_X6_playWeeks ⟨Nat.le_of_ble_eq_true rfl, Nat.le_of_ble_eq_true rfl⟩ ml_X6_124 dX6_heard_11 (by decide) rfl rfl rfl (Nat.le_of_ble_eq_true rfl) ?_
  refine r_istore_2 (pc := 14) dX6_heard_14 rfl (by decide) ?_
  refine r_iload_2 (pc := 15) dX6_heard_15 ?_
  refine r_if_eq (pc := 16) 21 dX6_heard_16 (by decide) (fun c16 => ?_) (fun c16 => ?_)
  · refine r_aload_0 (pc := 21) dX6_heard_21 ?_
    refine r_f_X6_ahead (pc := 22) fl_X6_39 dX6_heard_22 ?_
    refine r_cV0_0 (pc := 25) ((ct_X0_listen (by decide)).at sXa uXa) cv_X0_listen ⟨Nat.le_of_ble_eq_true rfl, Nat.le_of_ble_eq_true rfl⟩ ml_X6_148 dX6_heard_25 (by decide) rfl rfl rfl (Nat.le_of_ble_eq_true rfl) ?_
    refine r_aload_0 (pc := 28) dX6_heard_28 ?_
    refine r_f_X6_ahead (pc := 29) fl_X6_39 dX6_heard_29 ?_
    refine r_iload_1 (pc := 32) dX6_heard_32 ?_
    refine r_cV1_1 (pc := 33) ((ct_X0_heardAt (by decide)).at sXa sXa) cv_X0_heardAt ⟨Nat.le_of_ble_eq_true rfl, Nat.le_of_ble_eq_true rfl⟩ ml_X6_151 dX6_heard_33 (by decide) rfl rfl rfl (Nat.le_of_ble_eq_true rfl) ?_
    refine r_iret (pc := 36) dX6_heard_36 rfl (by rw [hdV, if_pos c16] <;> rfl) (by rw [hdS, if_pos c16])
  · refine r_iload_2 (pc := 19) dX6_heard_19 ?_
    refine r_iret (pc := 20) dX6_heard_20 rfl (by rw [hdV, if_neg c16]) (by rw [hdS, if_neg c16])
theorem ct_X6_whoseB {h : Wd} {S : SG} {x : Int32} (hb : isC x = false) : Ct mX6_whose [.ref 0, .int x] (wx h S) (some (.int (-2))) (wx h S) := by
  refine Ct.of (Z := List.replicate 2 .null) (by decide) (Nat.le_of_ble_eq_true rfl) (fun z hz => List.eq_of_mem_replicate hz) ?_
  show WW mX6_whose 0 [.ref 0, .int x, .null, .null] [] _ _ _
  refine r_iload_1 (pc := 0) dX6_whose_0 ?_
  refine r_cS1_1 (pc := 1) (ct_X6_isCell) cs_X6_isCell ⟨Nat.le_of_ble_eq_true rfl, Nat.le_of_ble_eq_true rfl⟩ ml_X6_56 dX6_whose_1 rfl (Nat.le_of_ble_eq_true rfl) ?_
  refine r_if_ne (pc := 4) 10 dX6_whose_4 (by decide) (fun c4 => absurd (by rw [hb]; rfl) c4) (fun _ => ?_)
  refine r_bipush (pc := 7) (-2) dX6_whose_7 (by decide) ?_
  refine r_iret (pc := 9) dX6_whose_9 rfl (by first | rfl | simp_all [bI]) rfl
def whV (S : SG) (n j : Nat) : Int32 := if pwV S n = 0 then (if wc_claimers (pwS S n).ahead j = -1 then -6 else wc_claimers (pwS S n).ahead j) else pwV S n
theorem ct_X6_whose {h : Wd} {S : SG} {n j : Nat} (hj : j < 64) (hc : wp_count S.pad = nI n) (hn : n ≤ 60) (hT : okT (wc_tents S.now.camp)) : Ct mX6_whose [.ref 0, .int (nI j)] (wx h S) (some (.int (whV S n j))) (wx h (pwS S n)) := by
  refine Ct.of (Z := List.replicate 2 .null) (by decide) (Nat.le_of_ble_eq_true rfl) (fun z hz => List.eq_of_mem_replicate hz) ?_
  show WW mX6_whose 0 [.ref 0, .int (nI j), .null, .null] [] _ _ _
  refine r_iload_1 (pc := 0) dX6_whose_0 ?_
  refine r_cS1_1 (pc := 1) (ct_X6_isCell) cs_X6_isCell ⟨Nat.le_of_ble_eq_true rfl, Nat.le_of_ble_eq_true rfl⟩ ml_X6_56 dX6_whose_1 rfl (Nat.le_of_ble_eq_true rfl) ?_
  refine r_if_ne (pc := 4) 10 dX6_whose_4 (by decide) (fun _ => ?_) (fun c4 => absurd c4 (by rw [isC_n hj]; decide))
  refine r_aload_0 (pc := 10) dX6_whose_10 ?_
  refine r_cV1_0 (pc := 11) (ct_X6_playWeeks hc hn hT) cv_X6_playWeeks ⟨Nat.le_of_ble_eq_true rfl, Nat.le_of_ble_eq_true rfl⟩ ml_X6_124 dX6_whose_11 (by decide) rfl rfl rfl (Nat.le_of_ble_eq_true rfl) ?_
  refine r_istore_2 (pc := 14) dX6_whose_14 rfl (by decide) ?_
  refine r_iload_2 (pc := 15) dX6_whose_15 ?_
  refine r_if_eq (pc := 16) 21 dX6_whose_16 (by decide) (fun c16 => ?_) (fun c16 => ?_)
  · refine r_aload_0 (pc := 21) dX6_whose_21 ?_
    refine r_f_X6_ahead (pc := 22) fl_X6_39 dX6_whose_22 ?_
    refine r_iload_1 (pc := 25) dX6_whose_25 ?_
    refine r_cV1_1 (pc := 26) ((ct_X0_claimerOf (by decide) hj).at sXa sXa) cv_X0_claimerOf ⟨Nat.le_of_ble_eq_true rfl, Nat.le_of_ble_eq_true rfl⟩ ml_X6_154 dX6_whose_26 (by decide) rfl rfl rfl (Nat.le_of_ble_eq_true rfl) ?_
    refine r_istore_3 (pc := 29) dX6_whose_29 rfl (by decide) ?_
    refine r_iload_3 (pc := 30) dX6_whose_30 ?_
    refine r_iconst (pc := 31) (-1) dX6_whose_31 (by decide) ?_
    refine r_icmp_ne (pc := 32) 40 dX6_whose_32 (by decide) (fun c32 => ?_) (fun c32 => ?_)
    · refine r_iload_3 (pc := 40) dX6_whose_40 ?_
      refine r_iret (pc := 41) dX6_whose_41 rfl (by rw [whV, if_pos c16, if_neg c32]) rfl
    · refine r_bipush (pc := 35) (-6) dX6_whose_35 (by decide) ?_
      refine r_goto (pc := 37) 41 dX6_whose_37 (by decide) ?_
      refine r_iret (pc := 41) dX6_whose_41 rfl (by rw [whV, if_pos c16, if_pos (c32)]) rfl
  · refine r_iload_2 (pc := 19) dX6_whose_19 ?_
    refine r_iret (pc := 20) dX6_whose_20 rfl (by rw [whV, if_neg c16]) rfl
theorem ct_X6_nothingB {h : Wd} {S : SG} {x : Int32} (hb : inR x 0 1 = false) : Ct mX6_nothing [.ref 0, .int x] (wx h S) (some (.int (-2))) (wx h S) := by
  refine Ct.of (Z := List.replicate 1 .null) (by decide) (Nat.le_of_ble_eq_true rfl) (fun z hz => List.eq_of_mem_replicate hz) ?_
  show WW mX6_nothing 0 [.ref 0, .int x, .null] [] _ _ _
  refine r_iload_1 (pc := 0) dX6_nothing_0 ?_
  refine r_cS1_1 (pc := 1) (ct_X6_isZeroOrOne) cs_X6_isZeroOrOne ⟨Nat.le_of_ble_eq_true rfl, Nat.le_of_ble_eq_true rfl⟩ ml_X6_157 dX6_nothing_1 rfl (Nat.le_of_ble_eq_true rfl) ?_
  refine r_if_ne (pc := 4) 10 dX6_nothing_4 (by decide) (fun c4 => absurd (by rw [is01_R, hb]; rfl) c4) (fun _ => ?_)
  refine r_bipush (pc := 7) (-2) dX6_nothing_7 (by decide) ?_
  refine r_iret (pc := 9) dX6_nothing_9 rfl (by first | rfl | simp_all [bI]) rfl
def ntV (S : SG) (n : Nat) (x : Int32) : Int32 := if pwV S n = 0 then (if x = 0 then wk_firstEmpty (pwS S n).week else wk_empty (pwS S n).week) else pwV S n
theorem ct_X6_nothing {h : Wd} {S : SG} {n : Nat} {x : Int32} (hb : inR x 0 1 = true) (hc : wp_count S.pad = nI n) (hn : n ≤ 60) (hT : okT (wc_tents S.now.camp)) : Ct mX6_nothing [.ref 0, .int x] (wx h S) (some (.int (ntV S n x))) (wx h (pwS S n)) := by
  refine Ct.of (Z := List.replicate 1 .null) (by decide) (Nat.le_of_ble_eq_true rfl) (fun z hz => List.eq_of_mem_replicate hz) ?_
  show WW mX6_nothing 0 [.ref 0, .int x, .null] [] _ _ _
  refine r_iload_1 (pc := 0) dX6_nothing_0 ?_
  refine r_cS1_1 (pc := 1) (ct_X6_isZeroOrOne) cs_X6_isZeroOrOne ⟨Nat.le_of_ble_eq_true rfl, Nat.le_of_ble_eq_true rfl⟩ ml_X6_157 dX6_nothing_1 rfl (Nat.le_of_ble_eq_true rfl) ?_
  refine r_if_ne (pc := 4) 10 dX6_nothing_4 (by decide) (fun _ => ?_) (fun c4 => absurd c4 (by rw [is01_R, hb]; decide))
  refine r_aload_0 (pc := 10) dX6_nothing_10 ?_
  refine r_cV1_0 (pc := 11) (ct_X6_playWeeks hc hn hT) cv_X6_playWeeks ⟨Nat.le_of_ble_eq_true rfl, Nat.le_of_ble_eq_true rfl⟩ ml_X6_124 dX6_nothing_11 (by decide) rfl rfl rfl (Nat.le_of_ble_eq_true rfl) ?_
  refine r_istore_2 (pc := 14) dX6_nothing_14 rfl (by decide) ?_
  refine r_iload_2 (pc := 15) dX6_nothing_15 ?_
  refine r_if_eq (pc := 16) 21 dX6_nothing_16 (by decide) (fun c16 => ?_) (fun c16 => ?_)
  · refine r_iload_1 (pc := 21) dX6_nothing_21 ?_
    refine r_if_ne (pc := 22) 35 dX6_nothing_22 (by decide) (fun c22 => ?_) (fun c22 => ?_)
    · refine r_aload_0 (pc := 35) dX6_nothing_35 ?_
      refine r_f_X6_week (pc := 36) fl_X6_32 dX6_nothing_36 ?_
      refine r_cV1_0 (pc := 39) ((ct_X5_countEmptyClaims (by decide)).at sXw sXw) cv_X5_countEmptyClaims ⟨Nat.le_of_ble_eq_true rfl, Nat.le_of_ble_eq_true rfl⟩ ml_X6_163 dX6_nothing_39 (by decide) rfl rfl rfl (Nat.le_of_ble_eq_true rfl) ?_
      refine r_iret (pc := 42) dX6_nothing_42 rfl (by rw [ntV, if_pos c16, if_neg c22]) rfl
    · refine r_aload_0 (pc := 25) dX6_nothing_25 ?_
      refine r_f_X6_week (pc := 26) fl_X6_32 dX6_nothing_26 ?_
      refine r_cV1_0 (pc := 29) ((ct_X5_firstEmptyClaim (by decide)).at sXw sXw) cv_X5_firstEmptyClaim ⟨Nat.le_of_ble_eq_true rfl, Nat.le_of_ble_eq_true rfl⟩ ml_X6_160 dX6_nothing_29 (by decide) rfl rfl rfl (Nat.le_of_ble_eq_true rfl) ?_
      refine r_goto (pc := 32) 42 dX6_nothing_32 (by decide) ?_
      refine r_iret (pc := 42) dX6_nothing_42 rfl (by rw [ntV, if_pos c16, if_pos (c22)]) rfl
  · refine r_iload_2 (pc := 19) dX6_nothing_19 ?_
    refine r_iret (pc := 20) dX6_nothing_20 rfl (by rw [ntV, if_neg c16]) rfl
def doS (S : SG) (n : Nat) : SG := if pwV S n = 0 then ((pwS S n).sc 1 (cpC (pwS S n).now.camp (pwS S n).ahead)).sp (wp_s_count (pwS S n).pad 0) else pwS S n
def doV (S : SG) (n : Nat) : Int32 := if pwV S n = 0 then wk_acts (pwS S n).week else pwV S n
theorem ct_X6_done {h : Wd} {S : SG} {n : Nat} (hc : wp_count S.pad = nI n) (hn : n ≤ 60) (hT : okT (wc_tents S.now.camp)) : Ct mX6_done [.ref 0] (wx h S) (some (.int (doV S n))) (wx h (doS S n)) := by
  have cA : ∀ T : SG, Ct mX0_copyFrom [.ref 18, .ref 11] (wx h T) none (wx h (T.sc 1 (cpC T.now.camp T.ahead))) := fun T => (ct_X0_copyFrom (k := 18) (k2 := 11) (by decide) (by decide) (by decide)).at (by rw [sXa, sXc1]) (by rw [sXa, uXc1])
  refine Ct.of (Z := List.replicate 1 .null) (by decide) (Nat.le_of_ble_eq_true rfl) (fun z hz => List.eq_of_mem_replicate hz) ?_
  show WW mX6_done 0 [.ref 0, .null] [] _ _ _
  refine r_aload_0 (pc := 0) dX6_done_0 ?_
  refine r_cV1_0 (pc := 1) (ct_X6_playWeeks hc hn hT) cv_X6_playWeeks ⟨Nat.le_of_ble_eq_true rfl, Nat.le_of_ble_eq_true rfl⟩ ml_X6_124 dX6_done_1 (by decide) rfl rfl rfl (Nat.le_of_ble_eq_true rfl) ?_
  refine r_istore_1 (pc := 4) dX6_done_4 rfl (by decide) ?_
  refine r_iload_1 (pc := 5) dX6_done_5 ?_
  refine r_if_eq (pc := 6) 11 dX6_done_6 (by decide) (fun c6 => ?_) (fun c6 => ?_)
  · refine r_aload_0 (pc := 11) dX6_done_11 ?_
    refine r_f_X6_now (pc := 12) fl_X6_10 dX6_done_12 ?_
    refine r_g_X1_camp (pc := 15) (List.mem_of_getElem? (i := 0) rfl) dX6_done_15 ?_
    refine r_aload_0 (pc := 18) dX6_done_18 ?_
    refine r_f_X6_ahead (pc := 19) fl_X6_39 dX6_done_19 ?_
    refine r_cV0_1 (pc := 22) (cA _) cv_X0_copyFrom ⟨Nat.le_of_ble_eq_true rfl, Nat.le_of_ble_eq_true rfl⟩ ml_X6_166 dX6_done_22 (by decide) rfl rfl rfl (Nat.le_of_ble_eq_true rfl) ?_
    refine r_aload_0 (pc := 25) dX6_done_25 ?_
    refine r_f_X6_pad (pc := 26) fl_X6_25 dX6_done_26 ?_
    refine r_cV0_0 (pc := 29) ((ct_X2_clear (by decide)).at sXp uXp) cv_X2_clear ⟨Nat.le_of_ble_eq_true rfl, Nat.le_of_ble_eq_true rfl⟩ ml_X6_118 dX6_done_29 (by decide) rfl rfl rfl (Nat.le_of_ble_eq_true rfl) ?_
    refine r_aload_0 (pc := 32) dX6_done_32 ?_
    refine r_f_X6_week (pc := 33) fl_X6_32 dX6_done_33 ?_
    refine r_cV1_0 (pc := 36) ((ct_X5_countActs (by decide)).at sXw sXw) cv_X5_countActs ⟨Nat.le_of_ble_eq_true rfl, Nat.le_of_ble_eq_true rfl⟩ ml_X6_170 dX6_done_36 (by decide) rfl rfl rfl (Nat.le_of_ble_eq_true rfl) ?_
    refine r_iret (pc := 39) dX6_done_39 rfl (by rw [doV, if_pos c6] <;> rfl) (by rw [doS, if_pos c6] <;> rfl)
  · refine r_iload_1 (pc := 9) dX6_done_9 ?_
    refine r_iret (pc := 10) dX6_done_10 rfl (by rw [doV, if_neg c6]) (by rw [doS, if_neg c6])
theorem ct_X6_loudestB {h : Wd} {S : SG} {x : Int32} (hb : inR x 0 1 = false) : Ct mX6_loudest [.ref 0, .int x] (wx h S) (some (.int (-2))) (wx h S) := by
  refine Ct.of (Z := List.replicate 5 .null) (by decide) (Nat.le_of_ble_eq_true rfl) (fun z hz => List.eq_of_mem_replicate hz) ?_
  show WW mX6_loudest 0 [.ref 0, .int x, .null, .null, .null, .null, .null] [] _ _ _
  refine r_iload_1 (pc := 0) dX6_loudest_0 ?_
  refine r_cS1_1 (pc := 1) (ct_X6_isZeroOrOne) cs_X6_isZeroOrOne ⟨Nat.le_of_ble_eq_true rfl, Nat.le_of_ble_eq_true rfl⟩ ml_X6_157 dX6_loudest_1 rfl (Nat.le_of_ble_eq_true rfl) ?_
  refine r_if_ne (pc := 4) 10 dX6_loudest_4 (by decide) (fun c4 => absurd (by rw [is01_R, hb]; rfl) c4) (fun _ => ?_)
  refine r_bipush (pc := 7) (-2) dX6_loudest_7 (by decide) ?_
  refine r_iret (pc := 9) dX6_loudest_9 rfl (by first | rfl | simp_all [bI]) rfl
def hrS (c : Camp) (t : Nat) : Int32 := hrd (wc_men c) (lsn c 6) (wc_tents c) (-1) (nI t) 6
theorem ct_heardL {h : Wd} {S : SG} {t : Nat} : Ct mX0_heardAt [.ref 18, .int (nI t)] (wx h (S.sc 1 (lst S.now.camp))) (some (.int (hrS S.now.camp t))) (wx h (S.sc 1 (lst S.now.camp))) :=
  (ct_X0_heardAt (c := lst S.now.camp) (by decide)).at (sXc1 (S := S.sc 1 (lst S.now.camp))) (sXc1 (S := S.sc 1 (lst S.now.camp)))
theorem lp_X6_loudest {h : Wd} {S : SG} {x : Int32} : ∀ r j, j + r = 63 → ∀ z : Value, WW mX6_loudest 31 [.ref 0, .int x, .ref 18, .int (nI (ldB (hrS S.now.camp) j)), .int (hrS S.now.camp (ldB (hrS S.now.camp) j)), .int (nI (j + 1)), z] [] (wx h (S.sc 1 (lst S.now.camp))) (some (.int (if x = 0 then nI (ldB (hrS S.now.camp) 63) else hrS S.now.camp (ldB (hrS S.now.camp) 63)))) (wx h (S.sc 1 (lst S.now.camp))) := by
  intro r
  induction r with
  | zero =>
    intro j hj z
    obtain rfl : j = 63 := by omega
    refine r_iload_5 (pc := 31) dX6_loudest_31 ?_
    refine r_bipush (pc := 33) 64 dX6_loudest_33 (by decide) ?_
    refine r_icmp_ge (pc := 35) 72 dX6_loudest_35 (by decide) (fun _ => ?_) (fun c35 => absurd (by decide) (c35))
    refine r_iload_1 (pc := 72) dX6_loudest_72 ?_
    refine r_if_ne (pc := 73) 80 dX6_loudest_73 (by decide) (fun c73 => ?_) (fun c73 => ?_)
    · refine r_iload_4 (pc := 80) dX6_loudest_80 ?_
      refine r_iret (pc := 82) dX6_loudest_82 rfl (by rw [if_neg c73]) rfl
    · refine r_iload_3 (pc := 76) dX6_loudest_76 ?_
      refine r_goto (pc := 77) 82 dX6_loudest_77 (by decide) ?_
      refine r_iret (pc := 82) dX6_loudest_82 rfl (by rw [if_pos (c73)]) rfl
  | succ r ih =>
    intro j hj z
    have lb := ldB_le (hrS S.now.camp) j
    refine r_iload_5 (pc := 31) dX6_loudest_31 ?_
    refine r_bipush (pc := 33) 64 dX6_loudest_33 (by decide) ?_
    refine r_icmp_ge (pc := 35) 72 dX6_loudest_35 (by decide) (fun c35 => absurd c35 (Int32.not_le.mpr ((nI_ltI (b := 64) (by omega) (by decide)).mpr (by omega)))) (fun _ => ?_)
    refine r_aload_2 (pc := 38) dX6_loudest_38 ?_
    refine r_iload_5 (pc := 39) dX6_loudest_39 ?_
    refine r_cV1_1 (pc := 41) (ct_heardL) cv_X0_heardAt ⟨Nat.le_of_ble_eq_true rfl, Nat.le_of_ble_eq_true rfl⟩ ml_X6_151 dX6_loudest_41 (by decide) rfl rfl rfl (Nat.le_of_ble_eq_true rfl) ?_
    refine r_istore_6 (pc := 44) dX6_loudest_44 rfl (by decide) ?_
    refine r_iload_3 (pc := 46) dX6_loudest_46 ?_
    refine r_bipush (pc := 47) (-6) dX6_loudest_47 (by decide) ?_
    refine r_icmp_eq (pc := 49) 59 dX6_loudest_49 (by decide) (fun c49 => absurd c49 (nI_n6 _ (by omega))) (fun _ => ?_)
    refine r_iload_6 (pc := 52) dX6_loudest_52 ?_
    refine r_iload_4 (pc := 54) dX6_loudest_54 ?_
    refine r_icmp_le (pc := 56) 66 dX6_loudest_56 (by decide) (fun c56 => ?_) (fun c56 => ?_)
    · refine r_inc_5 (pc := 66) dX6_loudest_66 rfl (by decide) ?_
      refine r_goto (pc := 69) 31 dX6_loudest_69 (by decide) ?_
      exact (ih (j + 1) (by omega) _).L (by rw [ldB, if_pos (show hrS S.now.camp (j + 1) ≤ hrS S.now.camp (ldB (hrS S.now.camp) j) from c56)] <;> rfl)
    · refine r_iload_5 (pc := 59) dX6_loudest_59 ?_
      refine r_istore_3 (pc := 61) dX6_loudest_61 rfl (by decide) ?_
      refine r_iload_6 (pc := 62) dX6_loudest_62 ?_
      refine r_istore_4 (pc := 64) dX6_loudest_64 rfl (by decide) ?_
      refine r_inc_5 (pc := 66) dX6_loudest_66 rfl (by decide) ?_
      refine r_goto (pc := 69) 31 dX6_loudest_69 (by decide) ?_
      exact (ih (j + 1) (by omega) _).L (by rw [ldB, if_neg (show ¬ hrS S.now.camp (j + 1) ≤ hrS S.now.camp (ldB (hrS S.now.camp) j) from c56)] <;> rfl)
theorem ct_X6_loudest {h : Wd} {S : SG} {x : Int32} (hb : inR x 0 1 = true) : Ct mX6_loudest [.ref 0, .int x] (wx h S) (some (.int (if x = 0 then nI (ldB (hrS S.now.camp) 63) else hrS S.now.camp (ldB (hrS S.now.camp) 63)))) (wx h (S.sc 1 (lst S.now.camp))) := by
  refine Ct.of (Z := List.replicate 5 .null) (by decide) (Nat.le_of_ble_eq_true rfl) (fun z hz => List.eq_of_mem_replicate hz) ?_
  show WW mX6_loudest 0 [.ref 0, .int x, .null, .null, .null, .null, .null] [] _ _ _
  refine r_iload_1 (pc := 0) dX6_loudest_0 ?_
  refine r_cS1_1 (pc := 1) (ct_X6_isZeroOrOne) cs_X6_isZeroOrOne ⟨Nat.le_of_ble_eq_true rfl, Nat.le_of_ble_eq_true rfl⟩ ml_X6_157 dX6_loudest_1 rfl (Nat.le_of_ble_eq_true rfl) ?_
  refine r_if_ne (pc := 4) 10 dX6_loudest_4 (by decide) (fun _ => ?_) (fun c4 => absurd c4 (by rw [is01_R, hb]; decide))
  refine r_aload_0 (pc := 10) dX6_loudest_10 ?_
  refine r_f_X6_now (pc := 11) fl_X6_10 dX6_loudest_11 ?_
  refine r_g_X1_camp (pc := 14) (List.mem_of_getElem? (i := 0) rfl) dX6_loudest_14 ?_
  refine r_astore_2 (pc := 17) dX6_loudest_17 rfl (by decide) ?_
  refine r_aload_2 (pc := 18) dX6_loudest_18 ?_
  refine r_cV0_0 (pc := 19) ((ct_X0_listen (by decide)).at sXc1 uXc1) cv_X0_listen ⟨Nat.le_of_ble_eq_true rfl, Nat.le_of_ble_eq_true rfl⟩ ml_X6_148 dX6_loudest_19 (by decide) rfl rfl rfl (Nat.le_of_ble_eq_true rfl) ?_
  refine r_bipush (pc := 22) (-6) dX6_loudest_22 (by decide) ?_
  refine r_istore_3 (pc := 24) dX6_loudest_24 rfl (by decide) ?_
  refine r_iconst (pc := 25) 0 dX6_loudest_25 (by decide) ?_
  refine r_istore_4 (pc := 26) dX6_loudest_26 rfl (by decide) ?_
  refine r_iconst (pc := 28) 0 dX6_loudest_28 (by decide) ?_
  refine r_istore_5 (pc := 29) dX6_loudest_29 rfl (by decide) ?_
  refine r_iload_5 (pc := 31) dX6_loudest_31 ?_
  refine r_bipush (pc := 33) 64 dX6_loudest_33 (by decide) ?_
  refine r_icmp_ge (pc := 35) 72 dX6_loudest_35 (by decide) (fun c35 => absurd c35 (by decide)) (fun _ => ?_)
  refine r_aload_2 (pc := 38) dX6_loudest_38 ?_
  refine r_iload_5 (pc := 39) dX6_loudest_39 ?_
  refine r_cV1_1 (pc := 41) (ct_heardL (t := 0)) cv_X0_heardAt ⟨Nat.le_of_ble_eq_true rfl, Nat.le_of_ble_eq_true rfl⟩ ml_X6_151 dX6_loudest_41 (by decide) rfl rfl rfl (Nat.le_of_ble_eq_true rfl) ?_
  refine r_istore_6 (pc := 44) dX6_loudest_44 rfl (by decide) ?_
  refine r_iload_3 (pc := 46) dX6_loudest_46 ?_
  refine r_bipush (pc := 47) (-6) dX6_loudest_47 (by decide) ?_
  refine r_icmp_eq (pc := 49) 59 dX6_loudest_49 (by decide) (fun _ => ?_) (fun c49 => absurd (rfl) (c49))
  refine r_iload_5 (pc := 59) dX6_loudest_59 ?_
  refine r_istore_3 (pc := 61) dX6_loudest_61 rfl (by decide) ?_
  refine r_iload_6 (pc := 62) dX6_loudest_62 ?_
  refine r_istore_4 (pc := 64) dX6_loudest_64 rfl (by decide) ?_
  refine r_inc_5 (pc := 66) dX6_loudest_66 rfl (by decide) ?_
  refine r_goto (pc := 69) 31 dX6_loudest_69 (by decide) ?_
  exact lp_X6_loudest 63 0 rfl _
