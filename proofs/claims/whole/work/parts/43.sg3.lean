/-! SnoresGold: where to sleep, tales, twos -/
theorem ct_X6_refusalB {h : Wd} {S : SG} {x y z : Int32} (hb : hasB (wc_men S.now.camp) x = false) : Ct mX6_refusalOfSteps [.ref 0, .int x, .int y, .int z] (wx h S) (some (.int (-1))) (wx h S) := by
  refine Ct.of (Z := List.replicate 0 .null) (by decide) (Nat.le_of_ble_eq_true rfl) (fun z hz => List.eq_of_mem_replicate hz) ?_
  show WW mX6_refusalOfSteps 0 [.ref 0, .int x, .int y, .int z] [] _ _ _
  refine r_aload_0 (pc := 0) dX6_refusalOfSteps_0 ?_
  refine r_f_X6_now (pc := 1) fl_X6_10 dX6_refusalOfSteps_1 ?_
  refine r_g_X1_camp (pc := 4) (List.mem_of_getElem? (i := 0) rfl) dX6_refusalOfSteps_4 ?_
  refine r_iload_1 (pc := 7) dX6_refusalOfSteps_7 ?_
  refine r_cV1_1 (pc := 8) ((ct_X0_isThere (by decide)).at sXc1 sXc1) cv_X0_isThere ⟨Nat.le_of_ble_eq_true rfl, Nat.le_of_ble_eq_true rfl⟩ ml_X6_85 dX6_refusalOfSteps_8 (by decide) rfl rfl rfl (Nat.le_of_ble_eq_true rfl) ?_
  refine r_if_ne (pc := 11) 16 dX6_refusalOfSteps_11 (by decide) (fun c11 => absurd (by rw [hb]; rfl) c11) (fun _ => ?_)
  refine r_iconst (pc := 14) (-1) dX6_refusalOfSteps_14 (by decide) ?_
  refine r_iret (pc := 15) dX6_refusalOfSteps_15 rfl (by first | rfl | simp_all [bI]) rfl
theorem ct_X6_refusalO {h : Wd} {S : SG} {x y z : Int32} (hb : hasB (wc_men S.now.camp) x = true) (ho : (inR y 0 14 && inR z 0 1) = false) : Ct mX6_refusalOfSteps [.ref 0, .int x, .int y, .int z] (wx h S) (some (.int (-2))) (wx h S) := by
  refine Ct.of (Z := List.replicate 0 .null) (by decide) (Nat.le_of_ble_eq_true rfl) (fun z hz => List.eq_of_mem_replicate hz) ?_
  show WW mX6_refusalOfSteps 0 [.ref 0, .int x, .int y, .int z] [] _ _ _
  refine r_aload_0 (pc := 0) dX6_refusalOfSteps_0 ?_
  refine r_f_X6_now (pc := 1) fl_X6_10 dX6_refusalOfSteps_1 ?_
  refine r_g_X1_camp (pc := 4) (List.mem_of_getElem? (i := 0) rfl) dX6_refusalOfSteps_4 ?_
  refine r_iload_1 (pc := 7) dX6_refusalOfSteps_7 ?_
  refine r_cV1_1 (pc := 8) ((ct_X0_isThere (by decide)).at sXc1 sXc1) cv_X0_isThere ⟨Nat.le_of_ble_eq_true rfl, Nat.le_of_ble_eq_true rfl⟩ ml_X6_85 dX6_refusalOfSteps_8 (by decide) rfl rfl rfl (Nat.le_of_ble_eq_true rfl) ?_
  refine r_if_ne (pc := 11) 16 dX6_refusalOfSteps_11 (by decide) (fun _ => ?_) (fun c11 => absurd c11 (by rw [hb]; decide))
  refine r_iload_2 (pc := 16) dX6_refusalOfSteps_16 ?_
  refine r_iconst (pc := 17) 0 dX6_refusalOfSteps_17 (by decide) ?_
  refine r_bipush (pc := 18) 14 dX6_refusalOfSteps_18 (by decide) ?_
  refine r_cS1_3 (pc := 20) (ct_X6_isWithin) cs_X6_isWithin ⟨Nat.le_of_ble_eq_true rfl, Nat.le_of_ble_eq_true rfl⟩ ml_X6_60 dX6_refusalOfSteps_20 rfl (Nat.le_of_ble_eq_true rfl) ?_
  refine r_if_eq (pc := 23) 37 dX6_refusalOfSteps_23 (by decide) (fun c23 => ?_) (fun c23 => ?_)
  · refine r_bipush (pc := 37) (-2) dX6_refusalOfSteps_37 (by decide) ?_
    refine r_iret (pc := 39) dX6_refusalOfSteps_39 rfl (by first | rfl | simp_all [bI]) rfl
  · refine r_iload_3 (pc := 26) dX6_refusalOfSteps_26 ?_
    refine r_cS1_1 (pc := 27) (ct_X6_isZeroOrOne) cs_X6_isZeroOrOne ⟨Nat.le_of_ble_eq_true rfl, Nat.le_of_ble_eq_true rfl⟩ ml_X6_157 dX6_refusalOfSteps_27 rfl (Nat.le_of_ble_eq_true rfl) ?_
    refine r_if_eq (pc := 30) 37 dX6_refusalOfSteps_30 (by decide) (fun c30 => ?_) (fun c30 => ?_)
    · refine r_bipush (pc := 37) (-2) dX6_refusalOfSteps_37 (by decide) ?_
      refine r_iret (pc := 39) dX6_refusalOfSteps_39 rfl (by first | rfl | simp_all [bI]) rfl
    · exact absurd ho (by rw [bI_n0] at c23 c30; rw [is01_R] at c30; rw [c23, c30]; decide)
theorem ct_X6_refusal {h : Wd} {S : SG} {x y z : Int32} (hb : hasB (wc_men S.now.camp) x = true) (hy : inR y 0 14 = true) (hz : inR z 0 1 = true) : Ct mX6_refusalOfSteps [.ref 0, .int x, .int y, .int z] (wx h S) (some (.int 0)) (wx h S) := by
  refine Ct.of (Z := List.replicate 0 .null) (by decide) (Nat.le_of_ble_eq_true rfl) (fun z hz => List.eq_of_mem_replicate hz) ?_
  show WW mX6_refusalOfSteps 0 [.ref 0, .int x, .int y, .int z] [] _ _ _
  refine r_aload_0 (pc := 0) dX6_refusalOfSteps_0 ?_
  refine r_f_X6_now (pc := 1) fl_X6_10 dX6_refusalOfSteps_1 ?_
  refine r_g_X1_camp (pc := 4) (List.mem_of_getElem? (i := 0) rfl) dX6_refusalOfSteps_4 ?_
  refine r_iload_1 (pc := 7) dX6_refusalOfSteps_7 ?_
  refine r_cV1_1 (pc := 8) ((ct_X0_isThere (by decide)).at sXc1 sXc1) cv_X0_isThere ⟨Nat.le_of_ble_eq_true rfl, Nat.le_of_ble_eq_true rfl⟩ ml_X6_85 dX6_refusalOfSteps_8 (by decide) rfl rfl rfl (Nat.le_of_ble_eq_true rfl) ?_
  refine r_if_ne (pc := 11) 16 dX6_refusalOfSteps_11 (by decide) (fun _ => ?_) (fun c11 => absurd c11 (by rw [hb]; decide))
  refine r_iload_2 (pc := 16) dX6_refusalOfSteps_16 ?_
  refine r_iconst (pc := 17) 0 dX6_refusalOfSteps_17 (by decide) ?_
  refine r_bipush (pc := 18) 14 dX6_refusalOfSteps_18 (by decide) ?_
  refine r_cS1_3 (pc := 20) (ct_X6_isWithin) cs_X6_isWithin ⟨Nat.le_of_ble_eq_true rfl, Nat.le_of_ble_eq_true rfl⟩ ml_X6_60 dX6_refusalOfSteps_20 rfl (Nat.le_of_ble_eq_true rfl) ?_
  refine r_if_eq (pc := 23) 37 dX6_refusalOfSteps_23 (by decide) (fun c23 => absurd c23 (by rw [hy]; decide)) (fun _ => ?_)
  refine r_iload_3 (pc := 26) dX6_refusalOfSteps_26 ?_
  refine r_cS1_1 (pc := 27) (ct_X6_isZeroOrOne) cs_X6_isZeroOrOne ⟨Nat.le_of_ble_eq_true rfl, Nat.le_of_ble_eq_true rfl⟩ ml_X6_157 dX6_refusalOfSteps_27 rfl (Nat.le_of_ble_eq_true rfl) ?_
  refine r_if_eq (pc := 30) 37 dX6_refusalOfSteps_30 (by decide) (fun c30 => absurd c30 (by rw [is01_R, hz]; decide)) (fun _ => ?_)
  refine r_iconst (pc := 33) 0 dX6_refusalOfSteps_33 (by decide) ?_
  refine r_goto (pc := 34) 39 dX6_refusalOfSteps_34 (by decide) ?_
  refine r_iret (pc := 39) dX6_refusalOfSteps_39 rfl (by first | rfl | simp_all [bI]) rfl
def qtS (c : Camp) (m t : Nat) (hi : Bool) : Int32 := if hi then hrb (wc_men c) (lsn c 6 m) (wc_tents c) (nI m) (nI t) 6 else hrd (wc_men c) (lsn c 6) (wc_tents c) (nI m) (nI t) 6
theorem lp_X6_quietest {h : Wd} {S : SG} {m tt : Nat} {kk what : Int32} {hi : Bool} (hm : m < 6) (R : Int32) : ∀ r t s, t + r = 64 → ok6 s.1 → R = (if what = 0 then (qst (fun j => decide (dist (nI tt) (nI j) ≤ kk)) (fun j => qtS S.now.camp m j hi) s r).1 else (qst (fun j => decide (dist (nI tt) (nI j) ≤ kk)) (fun j => qtS S.now.camp m j hi) s r).2) → ∀ z : Value, WW mX6_quietest 32 [.ref 0, .int (nI m), .int kk, .int what, .int (bI hi), .ref 18, .int (nI tt), .int s.1, .int s.2, .int (nI t), z] [] (wx h (S.sc 1 (lst S.now.camp))) (some (.int R)) (wx h (S.sc 1 (lst S.now.camp))) := by
  intro r
  induction r with
  | zero =>
    intro t s hj h6 e z
    obtain rfl : t = 64 := by omega
    refine r_iload_9 (pc := 32) dX6_quietest_32 ?_
    refine r_bipush (pc := 34) 64 dX6_quietest_34 (by decide) ?_
    refine r_icmp_ge (pc := 36) 104 dX6_quietest_36 (by decide) (fun _ => ?_) (fun c36 => absurd (nI_le (a := 64) (b := 64) (by omega) (by omega)) (c36))
    refine r_iload_3 (pc := 104) dX6_quietest_104 ?_
    refine r_if_ne (pc := 105) 113 dX6_quietest_105 (by decide) (fun c105 => ?_) (fun c105 => ?_)
    · refine r_iload_8 (pc := 113) dX6_quietest_113 ?_
      refine r_iret (pc := 115) dX6_quietest_115 rfl (by rw [e, if_neg c105]; rfl) rfl
    · refine r_iload_7 (pc := 108) dX6_quietest_108 ?_
      refine r_goto (pc := 110) 115 dX6_quietest_110 (by decide) ?_
      refine r_iret (pc := 115) dX6_quietest_115 rfl (by rw [e, if_pos c105]; rfl) rfl
  | succ r ih =>
    intro t s hj h6 e z
    have et : 64 - (r + 1) = t := by omega
    have go : ∀ s2 : Int32 × Int32, ok6 s2.1 → s2 = (if decide (dist (nI tt) (nI t) ≤ kk) = true ∧ (s.1 < 0 ∨ qtS S.now.camp m t hi < s.2) then (nI t, qtS S.now.camp m t hi) else s) → ∀ z1, WW mX6_quietest 32 [.ref 0, .int (nI m), .int kk, .int what, .int (bI hi), .ref 18, .int (nI tt), .int s2.1, .int s2.2, .int (nI (t + 1)), z1] [] (wx h (S.sc 1 (lst S.now.camp))) (some (.int R)) (wx h (S.sc 1 (lst S.now.camp))) := fun s2 h2 e2 z1 => ih (t + 1) s2 (by omega) h2 (by rw [e, qst, et, e2]) z1
    clear ih
    have cB : Ct mX0_heardByOthers [.ref 18, .int (nI m), .int (nI t)] (wx h (S.sc 1 (lst S.now.camp))) (some (.int (hrb (wc_men S.now.camp) (lsn S.now.camp 6 m) (wc_tents S.now.camp) (nI m) (nI t) 6))) (wx h (S.sc 1 (lst S.now.camp))) :=
      (ct_X0_heardByOthers (c := lst S.now.camp) (by decide) hm).at (sXc1 (S := S.sc 1 (lst S.now.camp))) (sXc1 (S := S.sc 1 (lst S.now.camp)))
    have cD : Ct mX0_heardWithout [.ref 18, .int (nI m), .int (nI t)] (wx h (S.sc 1 (lst S.now.camp))) (some (.int (hrd (wc_men S.now.camp) (lsn S.now.camp 6) (wc_tents S.now.camp) (nI m) (nI t) 6))) (wx h (S.sc 1 (lst S.now.camp))) :=
      (ct_X0_heardWithout (c := lst S.now.camp) (by decide)).at (sXc1 (S := S.sc 1 (lst S.now.camp))) (sXc1 (S := S.sc 1 (lst S.now.camp)))
    cases hi with
    | true =>
      refine r_iload_9 (pc := 32) dX6_quietest_32 ?_
      refine r_bipush (pc := 34) 64 dX6_quietest_34 (by decide) ?_
      refine r_icmp_ge (pc := 36) 104 dX6_quietest_36 (by decide) (fun c36 => absurd c36 (nI_ge (a := t) (b := 64) (by omega) (by decide))) (fun _ => ?_)
      refine r_iload_6 (pc := 39) dX6_quietest_39 ?_
      refine r_iload_9 (pc := 41) dX6_quietest_41 ?_
      refine r_cS1_2 (pc := 43) (ct_X6_distance) cs_X6_distance ⟨Nat.le_of_ble_eq_true rfl, Nat.le_of_ble_eq_true rfl⟩ ml_X6_215 dX6_quietest_43 rfl (Nat.le_of_ble_eq_true rfl) ?_
      refine r_iload_2 (pc := 46) dX6_quietest_46 ?_
      refine r_icmp_gt (pc := 47) 98 dX6_quietest_47 (by decide) (fun c47 => ?_) (fun c47 => ?_)
      · refine r_inc_9 (pc := 98) dX6_quietest_98 rfl (by decide) ?_
        refine r_goto (pc := 101) 32 dX6_quietest_101 (by decide) ?_
        exact go s h6 (by rw [if_neg (fun z => absurd (of_decide_eq_true z.1) (Int32.not_le.mpr c47))]) _
      · refine r_iload_4 (pc := 50) dX6_quietest_50 ?_
        refine r_if_eq (pc := 52) 66 dX6_quietest_52 (by decide) (fun c52 => absurd c52 (by decide)) (fun _ => ?_)
        refine r_aload_5 (pc := 55) dX6_quietest_55 ?_
        refine r_iload_1 (pc := 57) dX6_quietest_57 ?_
        refine r_iload_9 (pc := 58) dX6_quietest_58 ?_
        refine r_cV1_2 (pc := 60) (cB) cv_X0_heardByOthers ⟨Nat.le_of_ble_eq_true rfl, Nat.le_of_ble_eq_true rfl⟩ ml_X6_219 dX6_quietest_60 (by decide) rfl rfl rfl (Nat.le_of_ble_eq_true rfl) ?_
        refine r_goto (pc := 63) 74 dX6_quietest_63 (by decide) ?_
        refine r_istore_10 (pc := 74) dX6_quietest_74 rfl (by decide) ?_
        refine r_iload_7 (pc := 76) dX6_quietest_76 ?_
        refine r_bipush (pc := 78) (-6) dX6_quietest_78 (by decide) ?_
        refine r_icmp_eq (pc := 80) 90 dX6_quietest_80 (by decide) (fun c80 => ?_) (fun c80 => ?_)
        · refine r_iload_9 (pc := 90) dX6_quietest_90 ?_
          refine r_istore_7 (pc := 92) dX6_quietest_92 rfl (by decide) ?_
          refine r_iload_10 (pc := 94) dX6_quietest_94 ?_
          refine r_istore_8 (pc := 96) dX6_quietest_96 rfl (by decide) ?_
          refine r_inc_9 (pc := 98) dX6_quietest_98 rfl (by decide) ?_
          refine r_goto (pc := 101) 32 dX6_quietest_101 (by decide) ?_
          exact go (nI t, qtS S.now.camp m t true) (Or.inr ⟨t, by omega, rfl⟩) (by rw [if_pos ⟨decide_eq_true (Int32.not_lt.mp c47), Or.inl ((ok6_neg h6).mpr c80)⟩]) _
        · refine r_iload_10 (pc := 83) dX6_quietest_83 ?_
          refine r_iload_8 (pc := 85) dX6_quietest_85 ?_
          refine r_icmp_ge (pc := 87) 98 dX6_quietest_87 (by decide) (fun c87 => ?_) (fun c87 => ?_)
          · refine r_inc_9 (pc := 98) dX6_quietest_98 rfl (by decide) ?_
            refine r_goto (pc := 101) 32 dX6_quietest_101 (by decide) ?_
            exact go s h6 (by rw [if_neg (fun z => z.2.elim (fun q => c80 ((ok6_neg h6).mp q)) (fun q => absurd q (Int32.not_lt.mpr c87)))]) _
          · refine r_iload_9 (pc := 90) dX6_quietest_90 ?_
            refine r_istore_7 (pc := 92) dX6_quietest_92 rfl (by decide) ?_
            refine r_iload_10 (pc := 94) dX6_quietest_94 ?_
            refine r_istore_8 (pc := 96) dX6_quietest_96 rfl (by decide) ?_
            refine r_inc_9 (pc := 98) dX6_quietest_98 rfl (by decide) ?_
            refine r_goto (pc := 101) 32 dX6_quietest_101 (by decide) ?_
            exact go (nI t, qtS S.now.camp m t true) (Or.inr ⟨t, by omega, rfl⟩) (by rw [if_pos ⟨decide_eq_true (Int32.not_lt.mp c47), Or.inr (i_nle c87)⟩]) _
    | false =>
      refine r_iload_9 (pc := 32) dX6_quietest_32 ?_
      refine r_bipush (pc := 34) 64 dX6_quietest_34 (by decide) ?_
      refine r_icmp_ge (pc := 36) 104 dX6_quietest_36 (by decide) (fun c36 => absurd c36 (nI_ge (a := t) (b := 64) (by omega) (by decide))) (fun _ => ?_)
      refine r_iload_6 (pc := 39) dX6_quietest_39 ?_
      refine r_iload_9 (pc := 41) dX6_quietest_41 ?_
      refine r_cS1_2 (pc := 43) (ct_X6_distance) cs_X6_distance ⟨Nat.le_of_ble_eq_true rfl, Nat.le_of_ble_eq_true rfl⟩ ml_X6_215 dX6_quietest_43 rfl (Nat.le_of_ble_eq_true rfl) ?_
      refine r_iload_2 (pc := 46) dX6_quietest_46 ?_
      refine r_icmp_gt (pc := 47) 98 dX6_quietest_47 (by decide) (fun c47 => ?_) (fun c47 => ?_)
      · refine r_inc_9 (pc := 98) dX6_quietest_98 rfl (by decide) ?_
        refine r_goto (pc := 101) 32 dX6_quietest_101 (by decide) ?_
        exact go s h6 (by rw [if_neg (fun z => absurd (of_decide_eq_true z.1) (Int32.not_le.mpr c47))]) _
      · refine r_iload_4 (pc := 50) dX6_quietest_50 ?_
        refine r_if_eq (pc := 52) 66 dX6_quietest_52 (by decide) (fun _ => ?_) (fun c52 => absurd (rfl) (c52))
        refine r_aload_5 (pc := 66) dX6_quietest_66 ?_
        refine r_iload_1 (pc := 68) dX6_quietest_68 ?_
        refine r_iload_9 (pc := 69) dX6_quietest_69 ?_
        refine r_cV1_2 (pc := 71) (cD) cv_X0_heardWithout ⟨Nat.le_of_ble_eq_true rfl, Nat.le_of_ble_eq_true rfl⟩ ml_X6_222 dX6_quietest_71 (by decide) rfl rfl rfl (Nat.le_of_ble_eq_true rfl) ?_
        refine r_istore_10 (pc := 74) dX6_quietest_74 rfl (by decide) ?_
        refine r_iload_7 (pc := 76) dX6_quietest_76 ?_
        refine r_bipush (pc := 78) (-6) dX6_quietest_78 (by decide) ?_
        refine r_icmp_eq (pc := 80) 90 dX6_quietest_80 (by decide) (fun c80 => ?_) (fun c80 => ?_)
        · refine r_iload_9 (pc := 90) dX6_quietest_90 ?_
          refine r_istore_7 (pc := 92) dX6_quietest_92 rfl (by decide) ?_
          refine r_iload_10 (pc := 94) dX6_quietest_94 ?_
          refine r_istore_8 (pc := 96) dX6_quietest_96 rfl (by decide) ?_
          refine r_inc_9 (pc := 98) dX6_quietest_98 rfl (by decide) ?_
          refine r_goto (pc := 101) 32 dX6_quietest_101 (by decide) ?_
          exact go (nI t, qtS S.now.camp m t false) (Or.inr ⟨t, by omega, rfl⟩) (by rw [if_pos ⟨decide_eq_true (Int32.not_lt.mp c47), Or.inl ((ok6_neg h6).mpr c80)⟩]) _
        · refine r_iload_10 (pc := 83) dX6_quietest_83 ?_
          refine r_iload_8 (pc := 85) dX6_quietest_85 ?_
          refine r_icmp_ge (pc := 87) 98 dX6_quietest_87 (by decide) (fun c87 => ?_) (fun c87 => ?_)
          · refine r_inc_9 (pc := 98) dX6_quietest_98 rfl (by decide) ?_
            refine r_goto (pc := 101) 32 dX6_quietest_101 (by decide) ?_
            exact go s h6 (by rw [if_neg (fun z => z.2.elim (fun q => c80 ((ok6_neg h6).mp q)) (fun q => absurd q (Int32.not_lt.mpr c87)))]) _
          · refine r_iload_9 (pc := 90) dX6_quietest_90 ?_
            refine r_istore_7 (pc := 92) dX6_quietest_92 rfl (by decide) ?_
            refine r_iload_10 (pc := 94) dX6_quietest_94 ?_
            refine r_istore_8 (pc := 96) dX6_quietest_96 rfl (by decide) ?_
            refine r_inc_9 (pc := 98) dX6_quietest_98 rfl (by decide) ?_
            refine r_goto (pc := 101) 32 dX6_quietest_101 (by decide) ?_
            exact go (nI t, qtS S.now.camp m t false) (Or.inr ⟨t, by omega, rfl⟩) (by rw [if_pos ⟨decide_eq_true (Int32.not_lt.mp c47), Or.inr (i_nle c87)⟩]) _
theorem ct_X6_quietest {h : Wd} {S : SG} {m tt : Nat} {kk what : Int32} {hi : Bool} (hm : m < 6) (ett : wc_tents S.now.camp m = nI tt) : Ct mX6_quietest [.ref 0, .int (nI m), .int kk, .int what, .int (bI hi)] (wx h S) (some (.int (qsV (fun j => decide (dist (nI tt) (nI j) ≤ kk)) (fun j => qtS S.now.camp m j hi) what))) (wx h (S.sc 1 (lst S.now.camp))) := by
  have cT : Ct mX0_tentOf [.ref 18, .int (nI m)] (wx h (S.sc 1 (lst S.now.camp))) (some (.int (nI tt))) (wx h (S.sc 1 (lst S.now.camp))) := by
    rw [← ett]
    exact (ct_X0_tentOf (c := lst S.now.camp) (by decide) hm).at (sXc1 (S := S.sc 1 (lst S.now.camp))) (sXc1 (S := S.sc 1 (lst S.now.camp)))
  refine Ct.of (Z := List.replicate 6 .null) (by decide) (Nat.le_of_ble_eq_true rfl) (fun z hz => List.eq_of_mem_replicate hz) ?_
  show WW mX6_quietest 0 [.ref 0, .int (nI m), .int kk, .int what, .int (bI hi), .null, .null, .null, .null, .null, .null] [] _ _ _
  refine r_aload_0 (pc := 0) dX6_quietest_0 ?_
  refine r_f_X6_now (pc := 1) fl_X6_10 dX6_quietest_1 ?_
  refine r_g_X1_camp (pc := 4) (List.mem_of_getElem? (i := 0) rfl) dX6_quietest_4 ?_
  refine r_astore_5 (pc := 7) dX6_quietest_7 rfl (by decide) ?_
  refine r_aload_5 (pc := 9) dX6_quietest_9 ?_
  refine r_cV0_0 (pc := 11) ((ct_X0_listen (by decide)).at sXc1 uXc1) cv_X0_listen ⟨Nat.le_of_ble_eq_true rfl, Nat.le_of_ble_eq_true rfl⟩ ml_X6_148 dX6_quietest_11 (by decide) rfl rfl rfl (Nat.le_of_ble_eq_true rfl) ?_
  refine r_aload_5 (pc := 14) dX6_quietest_14 ?_
  refine r_iload_1 (pc := 16) dX6_quietest_16 ?_
  refine r_cV1_1 (pc := 17) (cT) cv_X0_tentOf ⟨Nat.le_of_ble_eq_true rfl, Nat.le_of_ble_eq_true rfl⟩ ml_X6_136 dX6_quietest_17 (by decide) rfl rfl rfl (Nat.le_of_ble_eq_true rfl) ?_
  refine r_istore_6 (pc := 20) dX6_quietest_20 rfl (by decide) ?_
  refine r_bipush (pc := 22) (-6) dX6_quietest_22 (by decide) ?_
  refine r_istore_7 (pc := 24) dX6_quietest_24 rfl (by decide) ?_
  refine r_iconst (pc := 26) 0 dX6_quietest_26 (by decide) ?_
  refine r_istore_8 (pc := 27) dX6_quietest_27 rfl (by decide) ?_
  refine r_iconst (pc := 29) 0 dX6_quietest_29 (by decide) ?_
  refine r_istore_9 (pc := 30) dX6_quietest_30 rfl (by decide) ?_
  exact lp_X6_quietest hm _ 64 0 (-6, 0) rfl (Or.inl rfl) rfl _
theorem ct_X6_sleepB {h : Wd} {S : SG} {x y z : Int32} (hb : hasB (wc_men S.now.camp) x = false) : Ct mX6_sleep [.ref 0, .int x, .int y, .int z] (wx h S) (some (.int (-1))) (wx h S) := by
  refine Ct.of (Z := List.replicate 1 .null) (by decide) (Nat.le_of_ble_eq_true rfl) (fun z hz => List.eq_of_mem_replicate hz) ?_
  show WW mX6_sleep 0 [.ref 0, .int x, .int y, .int z, .null] [] _ _ _
  refine r_aload_0 (pc := 0) dX6_sleep_0 ?_
  refine r_iload_1 (pc := 1) dX6_sleep_1 ?_
  refine r_iload_2 (pc := 2) dX6_sleep_2 ?_
  refine r_iload_3 (pc := 3) dX6_sleep_3 ?_
  refine r_cV1_3 (pc := 4) (ct_X6_refusalB hb) cv_X6_refusalOfSteps ⟨Nat.le_of_ble_eq_true rfl, Nat.le_of_ble_eq_true rfl⟩ ml_X6_177 dX6_sleep_4 (by decide) rfl rfl rfl (Nat.le_of_ble_eq_true rfl) ?_
  refine r_istore_4 (pc := 7) dX6_sleep_7 rfl (by decide) ?_
  refine r_iload_4 (pc := 9) dX6_sleep_9 ?_
  refine r_if_eq (pc := 11) 19 dX6_sleep_11 (by decide) (fun c11 => absurd c11 (by decide)) (fun _ => ?_)
  refine r_iload_4 (pc := 14) dX6_sleep_14 ?_
  refine r_goto (pc := 16) 27 dX6_sleep_16 (by decide) ?_
  refine r_iret (pc := 27) dX6_sleep_27 rfl (by first | rfl | simp_all [bI]) rfl
theorem ct_X6_sleepO {h : Wd} {S : SG} {x y z : Int32} (hb : hasB (wc_men S.now.camp) x = true) (ho : (inR y 0 14 && inR z 0 1) = false) : Ct mX6_sleep [.ref 0, .int x, .int y, .int z] (wx h S) (some (.int (-2))) (wx h S) := by
  refine Ct.of (Z := List.replicate 1 .null) (by decide) (Nat.le_of_ble_eq_true rfl) (fun z hz => List.eq_of_mem_replicate hz) ?_
  show WW mX6_sleep 0 [.ref 0, .int x, .int y, .int z, .null] [] _ _ _
  refine r_aload_0 (pc := 0) dX6_sleep_0 ?_
  refine r_iload_1 (pc := 1) dX6_sleep_1 ?_
  refine r_iload_2 (pc := 2) dX6_sleep_2 ?_
  refine r_iload_3 (pc := 3) dX6_sleep_3 ?_
  refine r_cV1_3 (pc := 4) (ct_X6_refusalO hb ho) cv_X6_refusalOfSteps ⟨Nat.le_of_ble_eq_true rfl, Nat.le_of_ble_eq_true rfl⟩ ml_X6_177 dX6_sleep_4 (by decide) rfl rfl rfl (Nat.le_of_ble_eq_true rfl) ?_
  refine r_istore_4 (pc := 7) dX6_sleep_7 rfl (by decide) ?_
  refine r_iload_4 (pc := 9) dX6_sleep_9 ?_
  refine r_if_eq (pc := 11) 19 dX6_sleep_11 (by decide) (fun c11 => absurd c11 (by decide)) (fun _ => ?_)
  refine r_iload_4 (pc := 14) dX6_sleep_14 ?_
  refine r_goto (pc := 16) 27 dX6_sleep_16 (by decide) ?_
  refine r_iret (pc := 27) dX6_sleep_27 rfl (by first | rfl | simp_all [bI]) rfl
theorem ct_X6_sleep {h : Wd} {S : SG} {m tt : Nat} {y z : Int32} (hm : m < 6) (hb : hasB (wc_men S.now.camp) (nI m) = true) (hy : inR y 0 14 = true) (hz : inR z 0 1 = true) (ett : wc_tents S.now.camp m = nI tt) : Ct mX6_sleep [.ref 0, .int (nI m), .int y, .int z] (wx h S) (some (.int (qsV (fun j => decide (dist (nI tt) (nI j) ≤ y)) (fun j => qtS S.now.camp m j false) z))) (wx h (S.sc 1 (lst S.now.camp))) := by
  refine Ct.of (Z := List.replicate 1 .null) (by decide) (Nat.le_of_ble_eq_true rfl) (fun z hz => List.eq_of_mem_replicate hz) ?_
  show WW mX6_sleep 0 [.ref 0, .int (nI m), .int y, .int z, .null] [] _ _ _
  refine r_aload_0 (pc := 0) dX6_sleep_0 ?_
  refine r_iload_1 (pc := 1) dX6_sleep_1 ?_
  refine r_iload_2 (pc := 2) dX6_sleep_2 ?_
  refine r_iload_3 (pc := 3) dX6_sleep_3 ?_
  refine r_cV1_3 (pc := 4) (ct_X6_refusal hb hy hz) cv_X6_refusalOfSteps ⟨Nat.le_of_ble_eq_true rfl, Nat.le_of_ble_eq_true rfl⟩ ml_X6_177 dX6_sleep_4 (by decide) rfl rfl rfl (Nat.le_of_ble_eq_true rfl) ?_
  refine r_istore_4 (pc := 7) dX6_sleep_7 rfl (by decide) ?_
  refine r_iload_4 (pc := 9) dX6_sleep_9 ?_
  refine r_if_eq (pc := 11) 19 dX6_sleep_11 (by decide) (fun _ => ?_) (fun c11 => absurd (rfl) (c11))
  refine r_aload_0 (pc := 19) dX6_sleep_19 ?_
  refine r_iload_1 (pc := 20) dX6_sleep_20 ?_
  refine r_iload_2 (pc := 21) dX6_sleep_21 ?_
  refine r_iload_3 (pc := 22) dX6_sleep_22 ?_
  refine r_iconst (pc := 23) 0 dX6_sleep_23 (by decide) ?_
  refine r_cV1_4 (pc := 24) (ct_X6_quietest (hi := false) hm ett) cv_X6_quietest ⟨Nat.le_of_ble_eq_true rfl, Nat.le_of_ble_eq_true rfl⟩ ml_X6_181 dX6_sleep_24 (by decide) rfl rfl rfl (Nat.le_of_ble_eq_true rfl) ?_
  refine r_iret (pc := 27) dX6_sleep_27 rfl (by first | rfl | simp_all [bI]) rfl
theorem ct_X6_hideB {h : Wd} {S : SG} {x y z : Int32} (hb : hasB (wc_men S.now.camp) x = false) : Ct mX6_hide [.ref 0, .int x, .int y, .int z] (wx h S) (some (.int (-1))) (wx h S) := by
  refine Ct.of (Z := List.replicate 1 .null) (by decide) (Nat.le_of_ble_eq_true rfl) (fun z hz => List.eq_of_mem_replicate hz) ?_
  show WW mX6_hide 0 [.ref 0, .int x, .int y, .int z, .null] [] _ _ _
  refine r_aload_0 (pc := 0) dX6_hide_0 ?_
  refine r_iload_1 (pc := 1) dX6_hide_1 ?_
  refine r_iload_2 (pc := 2) dX6_hide_2 ?_
  refine r_iload_3 (pc := 3) dX6_hide_3 ?_
  refine r_cV1_3 (pc := 4) (ct_X6_refusalB hb) cv_X6_refusalOfSteps ⟨Nat.le_of_ble_eq_true rfl, Nat.le_of_ble_eq_true rfl⟩ ml_X6_177 dX6_hide_4 (by decide) rfl rfl rfl (Nat.le_of_ble_eq_true rfl) ?_
  refine r_istore_4 (pc := 7) dX6_hide_7 rfl (by decide) ?_
  refine r_iload_4 (pc := 9) dX6_hide_9 ?_
  refine r_if_eq (pc := 11) 19 dX6_hide_11 (by decide) (fun c11 => absurd c11 (by decide)) (fun _ => ?_)
  refine r_iload_4 (pc := 14) dX6_hide_14 ?_
  refine r_goto (pc := 16) 27 dX6_hide_16 (by decide) ?_
  refine r_iret (pc := 27) dX6_hide_27 rfl (by first | rfl | simp_all [bI]) rfl
theorem ct_X6_hideO {h : Wd} {S : SG} {x y z : Int32} (hb : hasB (wc_men S.now.camp) x = true) (ho : (inR y 0 14 && inR z 0 1) = false) : Ct mX6_hide [.ref 0, .int x, .int y, .int z] (wx h S) (some (.int (-2))) (wx h S) := by
  refine Ct.of (Z := List.replicate 1 .null) (by decide) (Nat.le_of_ble_eq_true rfl) (fun z hz => List.eq_of_mem_replicate hz) ?_
  show WW mX6_hide 0 [.ref 0, .int x, .int y, .int z, .null] [] _ _ _
  refine r_aload_0 (pc := 0) dX6_hide_0 ?_
  refine r_iload_1 (pc := 1) dX6_hide_1 ?_
  refine r_iload_2 (pc := 2) dX6_hide_2 ?_
  refine r_iload_3 (pc := 3) dX6_hide_3 ?_
  refine r_cV1_3 (pc := 4) (ct_X6_refusalO hb ho) cv_X6_refusalOfSteps ⟨Nat.le_of_ble_eq_true rfl, Nat.le_of_ble_eq_true rfl⟩ ml_X6_177 dX6_hide_4 (by decide) rfl rfl rfl (Nat.le_of_ble_eq_true rfl) ?_
  refine r_istore_4 (pc := 7) dX6_hide_7 rfl (by decide) ?_
  refine r_iload_4 (pc := 9) dX6_hide_9 ?_
  refine r_if_eq (pc := 11) 19 dX6_hide_11 (by decide) (fun c11 => absurd c11 (by decide)) (fun _ => ?_)
  refine r_iload_4 (pc := 14) dX6_hide_14 ?_
  refine r_goto (pc := 16) 27 dX6_hide_16 (by decide) ?_
  refine r_iret (pc := 27) dX6_hide_27 rfl (by first | rfl | simp_all [bI]) rfl
theorem ct_X6_hide {h : Wd} {S : SG} {m tt : Nat} {y z : Int32} (hm : m < 6) (hb : hasB (wc_men S.now.camp) (nI m) = true) (hy : inR y 0 14 = true) (hz : inR z 0 1 = true) (ett : wc_tents S.now.camp m = nI tt) : Ct mX6_hide [.ref 0, .int (nI m), .int y, .int z] (wx h S) (some (.int (qsV (fun j => decide (dist (nI tt) (nI j) ≤ y)) (fun j => qtS S.now.camp m j true) z))) (wx h (S.sc 1 (lst S.now.camp))) := by
  refine Ct.of (Z := List.replicate 1 .null) (by decide) (Nat.le_of_ble_eq_true rfl) (fun z hz => List.eq_of_mem_replicate hz) ?_
  show WW mX6_hide 0 [.ref 0, .int (nI m), .int y, .int z, .null] [] _ _ _
  refine r_aload_0 (pc := 0) dX6_hide_0 ?_
  refine r_iload_1 (pc := 1) dX6_hide_1 ?_
  refine r_iload_2 (pc := 2) dX6_hide_2 ?_
  refine r_iload_3 (pc := 3) dX6_hide_3 ?_
  refine r_cV1_3 (pc := 4) (ct_X6_refusal hb hy hz) cv_X6_refusalOfSteps ⟨Nat.le_of_ble_eq_true rfl, Nat.le_of_ble_eq_true rfl⟩ ml_X6_177 dX6_hide_4 (by decide) rfl rfl rfl (Nat.le_of_ble_eq_true rfl) ?_
  refine r_istore_4 (pc := 7) dX6_hide_7 rfl (by decide) ?_
  refine r_iload_4 (pc := 9) dX6_hide_9 ?_
  refine r_if_eq (pc := 11) 19 dX6_hide_11 (by decide) (fun _ => ?_) (fun c11 => absurd (rfl) (c11))
  refine r_aload_0 (pc := 19) dX6_hide_19 ?_
  refine r_iload_1 (pc := 20) dX6_hide_20 ?_
  refine r_iload_2 (pc := 21) dX6_hide_21 ?_
  refine r_iload_3 (pc := 22) dX6_hide_22 ?_
  refine r_iconst (pc := 23) 1 dX6_hide_23 (by decide) ?_
  refine r_cV1_4 (pc := 24) (ct_X6_quietest (hi := true) hm ett) cv_X6_quietest ⟨Nat.le_of_ble_eq_true rfl, Nat.le_of_ble_eq_true rfl⟩ ml_X6_181 dX6_hide_24 (by decide) rfl rfl rfl (Nat.le_of_ble_eq_true rfl) ?_
  refine r_iret (pc := 27) dX6_hide_27 rfl (by first | rfl | simp_all [bI]) rfl
theorem ct_X6_taleB {h : Wd} {S : SG} {x y z : Int32} (hb : hasB (wc_men S.now.camp) x = false) : Ct mX6_tale [.ref 0, .int x, .int y, .int z] (wx h S) (some (.int (-1))) (wx h S) := by
  refine Ct.of (Z := List.replicate 0 .null) (by decide) (Nat.le_of_ble_eq_true rfl) (fun z hz => List.eq_of_mem_replicate hz) ?_
  show WW mX6_tale 0 [.ref 0, .int x, .int y, .int z] [] _ _ _
  refine r_aload_0 (pc := 0) dX6_tale_0 ?_
  refine r_f_X6_now (pc := 1) fl_X6_10 dX6_tale_1 ?_
  refine r_g_X1_camp (pc := 4) (List.mem_of_getElem? (i := 0) rfl) dX6_tale_4 ?_
  refine r_iload_1 (pc := 7) dX6_tale_7 ?_
  refine r_cV1_1 (pc := 8) ((ct_X0_isThere (by decide)).at sXc1 sXc1) cv_X0_isThere ⟨Nat.le_of_ble_eq_true rfl, Nat.le_of_ble_eq_true rfl⟩ ml_X6_85 dX6_tale_8 (by decide) rfl rfl rfl (Nat.le_of_ble_eq_true rfl) ?_
  refine r_if_ne (pc := 11) 16 dX6_tale_11 (by decide) (fun c11 => absurd (by rw [hb]; rfl) c11) (fun _ => ?_)
  refine r_iconst (pc := 14) (-1) dX6_tale_14 (by decide) ?_
  refine r_iret (pc := 15) dX6_tale_15 rfl (by first | rfl | simp_all [bI]) rfl
theorem ct_X6_taleO {h : Wd} {S : SG} {x y z : Int32} (hb : hasB (wc_men S.now.camp) x = true) (hc : isC y = false) : Ct mX6_tale [.ref 0, .int x, .int y, .int z] (wx h S) (some (.int (-2))) (wx h S) := by
  refine Ct.of (Z := List.replicate 0 .null) (by decide) (Nat.le_of_ble_eq_true rfl) (fun z hz => List.eq_of_mem_replicate hz) ?_
  show WW mX6_tale 0 [.ref 0, .int x, .int y, .int z] [] _ _ _
  refine r_aload_0 (pc := 0) dX6_tale_0 ?_
  refine r_f_X6_now (pc := 1) fl_X6_10 dX6_tale_1 ?_
  refine r_g_X1_camp (pc := 4) (List.mem_of_getElem? (i := 0) rfl) dX6_tale_4 ?_
  refine r_iload_1 (pc := 7) dX6_tale_7 ?_
  refine r_cV1_1 (pc := 8) ((ct_X0_isThere (by decide)).at sXc1 sXc1) cv_X0_isThere ⟨Nat.le_of_ble_eq_true rfl, Nat.le_of_ble_eq_true rfl⟩ ml_X6_85 dX6_tale_8 (by decide) rfl rfl rfl (Nat.le_of_ble_eq_true rfl) ?_
  refine r_if_ne (pc := 11) 16 dX6_tale_11 (by decide) (fun _ => ?_) (fun c11 => absurd c11 (by rw [hb]; decide))
  refine r_iload_2 (pc := 16) dX6_tale_16 ?_
  refine r_cS1_1 (pc := 17) (ct_X6_isCell) cs_X6_isCell ⟨Nat.le_of_ble_eq_true rfl, Nat.le_of_ble_eq_true rfl⟩ ml_X6_56 dX6_tale_17 rfl (Nat.le_of_ble_eq_true rfl) ?_
  refine r_if_ne (pc := 20) 26 dX6_tale_20 (by decide) (fun c20 => absurd (by rw [hc]; rfl) c20) (fun _ => ?_)
  refine r_bipush (pc := 23) (-2) dX6_tale_23 (by decide) ?_
  refine r_iret (pc := 25) dX6_tale_25 rfl (by first | rfl | simp_all [bI]) rfl
theorem ct_X6_taleF {h : Wd} {S : SG} {x y z : Int32} (hb : hasB (wc_men S.now.camp) x = true) (hc : isC y = true) (ht : wt_count S.now.tales = 8) : Ct mX6_tale [.ref 0, .int x, .int y, .int z] (wx h S) (some (.int (-4))) (wx h S) := by
  refine Ct.of (Z := List.replicate 0 .null) (by decide) (Nat.le_of_ble_eq_true rfl) (fun z hz => List.eq_of_mem_replicate hz) ?_
  show WW mX6_tale 0 [.ref 0, .int x, .int y, .int z] [] _ _ _
  refine r_aload_0 (pc := 0) dX6_tale_0 ?_
  refine r_f_X6_now (pc := 1) fl_X6_10 dX6_tale_1 ?_
  refine r_g_X1_camp (pc := 4) (List.mem_of_getElem? (i := 0) rfl) dX6_tale_4 ?_
  refine r_iload_1 (pc := 7) dX6_tale_7 ?_
  refine r_cV1_1 (pc := 8) ((ct_X0_isThere (by decide)).at sXc1 sXc1) cv_X0_isThere ⟨Nat.le_of_ble_eq_true rfl, Nat.le_of_ble_eq_true rfl⟩ ml_X6_85 dX6_tale_8 (by decide) rfl rfl rfl (Nat.le_of_ble_eq_true rfl) ?_
  refine r_if_ne (pc := 11) 16 dX6_tale_11 (by decide) (fun _ => ?_) (fun c11 => absurd c11 (by rw [hb]; decide))
  refine r_iload_2 (pc := 16) dX6_tale_16 ?_
  refine r_cS1_1 (pc := 17) (ct_X6_isCell) cs_X6_isCell ⟨Nat.le_of_ble_eq_true rfl, Nat.le_of_ble_eq_true rfl⟩ ml_X6_56 dX6_tale_17 rfl (Nat.le_of_ble_eq_true rfl) ?_
  refine r_if_ne (pc := 20) 26 dX6_tale_20 (by decide) (fun _ => ?_) (fun c20 => absurd c20 (by rw [hc]; decide))
  refine r_aload_0 (pc := 26) dX6_tale_26 ?_
  refine r_f_X6_now (pc := 27) fl_X6_10 dX6_tale_27 ?_
  refine r_g_X1_tales (pc := 30) (List.mem_of_getElem? (i := 1) rfl) dX6_tale_30 ?_
  refine r_iload_1 (pc := 33) dX6_tale_33 ?_
  refine r_iload_2 (pc := 34) dX6_tale_34 ?_
  refine r_iload_3 (pc := 35) dX6_tale_35 ?_
  refine r_cV1_3 (pc := 36) ((ct_X4_addF (by decide) ht).at sXt1 sXt1) cv_X4_add ⟨Nat.le_of_ble_eq_true rfl, Nat.le_of_ble_eq_true rfl⟩ ml_X6_189 dX6_tale_36 (by decide) rfl rfl rfl (Nat.le_of_ble_eq_true rfl) ?_
  refine r_if_eq (pc := 39) 55 dX6_tale_39 (by decide) (fun _ => ?_) (fun c39 => absurd (rfl) (c39))
  refine r_bipush (pc := 55) (-4) dX6_tale_55 (by decide) ?_
  refine r_iret (pc := 57) dX6_tale_57 rfl (by first | rfl | simp_all [bI]) rfl
theorem ct_X6_tale {h : Wd} {S : SG} {n : Nat} {x y z : Int32} (hb : hasB (wc_men S.now.camp) x = true) (hc : isC y = true) (ht : wt_count S.now.tales = nI n) (hn : n < 8) : Ct mX6_tale [.ref 0, .int x, .int y, .int z] (wx h S) (some (.int (nI (n + 1)))) (wx h (S.st 1 (tlA S.now.tales n x y (!decide (z = 0))))) := by
  refine Ct.of (Z := List.replicate 0 .null) (by decide) (Nat.le_of_ble_eq_true rfl) (fun z hz => List.eq_of_mem_replicate hz) ?_
  show WW mX6_tale 0 [.ref 0, .int x, .int y, .int z] [] _ _ _
  refine r_aload_0 (pc := 0) dX6_tale_0 ?_
  refine r_f_X6_now (pc := 1) fl_X6_10 dX6_tale_1 ?_
  refine r_g_X1_camp (pc := 4) (List.mem_of_getElem? (i := 0) rfl) dX6_tale_4 ?_
  refine r_iload_1 (pc := 7) dX6_tale_7 ?_
  refine r_cV1_1 (pc := 8) ((ct_X0_isThere (by decide)).at sXc1 sXc1) cv_X0_isThere ⟨Nat.le_of_ble_eq_true rfl, Nat.le_of_ble_eq_true rfl⟩ ml_X6_85 dX6_tale_8 (by decide) rfl rfl rfl (Nat.le_of_ble_eq_true rfl) ?_
  refine r_if_ne (pc := 11) 16 dX6_tale_11 (by decide) (fun _ => ?_) (fun c11 => absurd c11 (by rw [hb]; decide))
  refine r_iload_2 (pc := 16) dX6_tale_16 ?_
  refine r_cS1_1 (pc := 17) (ct_X6_isCell) cs_X6_isCell ⟨Nat.le_of_ble_eq_true rfl, Nat.le_of_ble_eq_true rfl⟩ ml_X6_56 dX6_tale_17 rfl (Nat.le_of_ble_eq_true rfl) ?_
  refine r_if_ne (pc := 20) 26 dX6_tale_20 (by decide) (fun _ => ?_) (fun c20 => absurd c20 (by rw [hc]; decide))
  refine r_aload_0 (pc := 26) dX6_tale_26 ?_
  refine r_f_X6_now (pc := 27) fl_X6_10 dX6_tale_27 ?_
  refine r_g_X1_tales (pc := 30) (List.mem_of_getElem? (i := 1) rfl) dX6_tale_30 ?_
  refine r_iload_1 (pc := 33) dX6_tale_33 ?_
  refine r_iload_2 (pc := 34) dX6_tale_34 ?_
  refine r_iload_3 (pc := 35) dX6_tale_35 ?_
  refine r_cV1_3 (pc := 36) ((ct_X4_add (by decide) ht hn).at sXt1 uXt1) cv_X4_add ⟨Nat.le_of_ble_eq_true rfl, Nat.le_of_ble_eq_true rfl⟩ ml_X6_189 dX6_tale_36 (by decide) rfl rfl rfl (Nat.le_of_ble_eq_true rfl) ?_
  refine r_if_eq (pc := 39) 55 dX6_tale_39 (by decide) (fun c39 => absurd c39 (by decide)) (fun _ => ?_)
  refine r_aload_0 (pc := 42) dX6_tale_42 ?_
  refine r_f_X6_now (pc := 43) fl_X6_10 dX6_tale_43 ?_
  refine r_g_X1_tales (pc := 46) (List.mem_of_getElem? (i := 1) rfl) dX6_tale_46 ?_
  refine r_cV1_0 (pc := 49) ((ct_X4_size (by decide)).at sXt1 sXt1) cv_X4_size ⟨Nat.le_of_ble_eq_true rfl, Nat.le_of_ble_eq_true rfl⟩ ml_X6_194 dX6_tale_49 (by decide) rfl rfl rfl (Nat.le_of_ble_eq_true rfl) ?_
  refine r_goto (pc := 52) 57 dX6_tale_52 (by decide) ?_
  refine r_iret (pc := 57) dX6_tale_57 rfl (by first | rfl | simp_all [bI]) rfl
theorem ct_X6_hush {h : Wd} {S : SG} : Ct mX6_hush [.ref 0] (wx h S) (some (.int (wt_count S.now.tales))) (wx h (S.st 1 (wt_s_toldGolden (wt_s_count S.now.tales 0) 0))) := by
  refine Ct.of (Z := List.replicate 1 .null) (by decide) (Nat.le_of_ble_eq_true rfl) (fun z hz => List.eq_of_mem_replicate hz) ?_
  show WW mX6_hush 0 [.ref 0, .null] [] _ _ _
  refine r_aload_0 (pc := 0) dX6_hush_0 ?_
  refine r_f_X6_now (pc := 1) fl_X6_10 dX6_hush_1 ?_
  refine r_g_X1_tales (pc := 4) (List.mem_of_getElem? (i := 1) rfl) dX6_hush_4 ?_
  refine r_cV1_0 (pc := 7) ((ct_X4_size (by decide)).at sXt1 sXt1) cv_X4_size ⟨Nat.le_of_ble_eq_true rfl, Nat.le_of_ble_eq_true rfl⟩ ml_X6_194 dX6_hush_7 (by decide) rfl rfl rfl (Nat.le_of_ble_eq_true rfl) ?_
  refine r_istore_1 (pc := 10) dX6_hush_10 rfl (by decide) ?_
  refine r_aload_0 (pc := 11) dX6_hush_11 ?_
  refine r_f_X6_now (pc := 12) fl_X6_10 dX6_hush_12 ?_
  refine r_g_X1_tales (pc := 15) (List.mem_of_getElem? (i := 1) rfl) dX6_hush_15 ?_
  refine r_cV0_0 (pc := 18) ((ct_X4_clear (by decide)).at sXt1 uXt1) cv_X4_clear ⟨Nat.le_of_ble_eq_true rfl, Nat.le_of_ble_eq_true rfl⟩ ml_X6_195 dX6_hush_18 (by decide) rfl rfl rfl (Nat.le_of_ble_eq_true rfl) ?_
  refine r_iload_1 (pc := 21) dX6_hush_21 ?_
  refine r_iret (pc := 22) dX6_hush_22 rfl (by first | rfl | simp_all [bI]) rfl
theorem ct_X6_liarsB {h : Wd} {S : SG} {x : Int32} (hb : inR x 0 1 = false) : Ct mX6_liars [.ref 0, .int x] (wx h S) (some (.int (-2))) (wx h S) := by
  refine Ct.of (Z := List.replicate 1 .null) (by decide) (Nat.le_of_ble_eq_true rfl) (fun z hz => List.eq_of_mem_replicate hz) ?_
  show WW mX6_liars 0 [.ref 0, .int x, .null] [] _ _ _
  refine r_iload_1 (pc := 0) dX6_liars_0 ?_
  refine r_cS1_1 (pc := 1) (ct_X6_isZeroOrOne) cs_X6_isZeroOrOne ⟨Nat.le_of_ble_eq_true rfl, Nat.le_of_ble_eq_true rfl⟩ ml_X6_157 dX6_liars_1 rfl (Nat.le_of_ble_eq_true rfl) ?_
  refine r_if_ne (pc := 4) 10 dX6_liars_4 (by decide) (fun c4 => absurd (by rw [is01_R, hb]; rfl) c4) (fun _ => ?_)
  refine r_bipush (pc := 7) (-2) dX6_liars_7 (by decide) ?_
  refine r_iret (pc := 9) dX6_liars_9 rfl (by first | rfl | simp_all [bI]) rfl
theorem ct_X6_liars {h : Wd} {S : SG} {n : Nat} {x : Int32} (hb : inR x 0 1 = true) (ht : wt_count S.now.tales = nI n) (hn : n ≤ 8) : Ct mX6_liars [.ref 0, .int x] (wx h S) (some (.int (liV (fwR (fun q => agI S.now.tales (nI q) n n) (-6) 64) x))) (wx h S) := by
  have h6 : ok6 (fwR (fun q => agI S.now.tales (nI q) n n) (-6) 64) := ok6_fwR _ _ (by omega) (Or.inl rfl)
  have h1 : ¬ x = 0 → x = 1 := fun h0 => by
    have := (of_decide_eq_true ((is01_R x).trans hb)).resolve_left h0
    exact this
  refine Ct.of (Z := List.replicate 1 .null) (by decide) (Nat.le_of_ble_eq_true rfl) (fun z hz => List.eq_of_mem_replicate hz) ?_
  show WW mX6_liars 0 [.ref 0, .int x, .null] [] _ _ _
  refine r_iload_1 (pc := 0) dX6_liars_0 ?_
  refine r_cS1_1 (pc := 1) (ct_X6_isZeroOrOne) cs_X6_isZeroOrOne ⟨Nat.le_of_ble_eq_true rfl, Nat.le_of_ble_eq_true rfl⟩ ml_X6_157 dX6_liars_1 rfl (Nat.le_of_ble_eq_true rfl) ?_
  refine r_if_ne (pc := 4) 10 dX6_liars_4 (by decide) (fun _ => ?_) (fun c4 => absurd c4 (by rw [is01_R, hb]; decide))
  refine r_aload_0 (pc := 10) dX6_liars_10 ?_
  refine r_f_X6_now (pc := 11) fl_X6_10 dX6_liars_11 ?_
  refine r_g_X1_tales (pc := 14) (List.mem_of_getElem? (i := 1) rfl) dX6_liars_14 ?_
  refine r_cV1_0 (pc := 17) ((ct_X4_fewestLiars (by decide) ht hn).at sXt1 sXt1) cv_X4_fewestLiars ⟨Nat.le_of_ble_eq_true rfl, Nat.le_of_ble_eq_true rfl⟩ ml_X6_196 dX6_liars_17 (by decide) rfl rfl rfl (Nat.le_of_ble_eq_true rfl) ?_
  refine r_istore_2 (pc := 20) dX6_liars_20 rfl (by decide) ?_
  refine r_iload_2 (pc := 21) dX6_liars_21 ?_
  refine r_bipush (pc := 22) (-6) dX6_liars_22 (by decide) ?_
  refine r_icmp_ne (pc := 24) 30 dX6_liars_24 (by decide) (fun c24 => ?_) (fun c24 => ?_)
  · refine r_iload_1 (pc := 30) dX6_liars_30 ?_
    refine r_if_ne (pc := 31) 41 dX6_liars_31 (by decide) (fun c31 => ?_) (fun c31 => ?_)
    · refine r_iload_2 (pc := 41) dX6_liars_41 ?_
      refine r_iret (pc := 42) dX6_liars_42 rfl (by rw [liV, if_pos (Or.inr (h1 c31))]) rfl
    · refine r_iload_2 (pc := 34) dX6_liars_34 ?_
      refine r_cS1_1 (pc := 35) (ct_J6_bitCount_0f7a4) cs_J6_bitCount_0f7a4 ⟨Nat.le_of_ble_eq_true rfl, Nat.le_of_ble_eq_true rfl⟩ ml_X6_199 dX6_liars_35 rfl (Nat.le_of_ble_eq_true rfl) ?_
      refine r_goto (pc := 38) 42 dX6_liars_38 (by decide) ?_
      refine r_iret (pc := 42) dX6_liars_42 rfl (by rw [liV, if_neg (fun z => z.elim (fun q => c24 ((ok6_neg h6).mp q)) (fun q => by rw [c31] at q; exact absurd q (by decide)))]) rfl
  · refine r_bipush (pc := 27) (-6) dX6_liars_27 (by decide) ?_
    refine r_iret (pc := 29) dX6_liars_29 rfl (by rw [liV, c24, if_pos (Or.inl (by decide))]) rfl
theorem lp_X6_readDigits {h : Wd} {S : SG} {x : Int32} : ∀ j n, n + j = 5 → WW mX6_readDigits 10 [.ref 0, .int x, .int (lfD x n), .int (nI j)] [] (wx h (S.sd (wth S.dig x n))) none (wx h (S.sd (wth S.dig x 6))) := by
  intro j
  induction j with
  | zero =>
    intro n hn
    obtain rfl : n = 5 := by omega
    refine r_iload_3 (pc := 10) dX6_readDigits_10 ?_
    refine r_if_lt (pc := 11) 35 dX6_readDigits_11 (by decide) (fun c11 => absurd c11 (by decide)) (fun _ => ?_)
    refine r_aload_0 (pc := 14) dX6_readDigits_14 ?_
    refine r_f_X6_digits (pc := 15) fl_X6_43 dX6_readDigits_15 ?_
    refine r_iload_3 (pc := 18) dX6_readDigits_18 ?_
    refine r_iload_2 (pc := 19) dX6_readDigits_19 ?_
    refine r_bipush (pc := 20) 10 dX6_readDigits_20 (by decide) ?_
    refine r_irem (pc := 22) dX6_readDigits_22 (by decide) ?_
    refine r_w6_st_digits (pc := 23)  (by omega) dX6_readDigits_23 ?_
    refine r_iload_2 (pc := 24) dX6_readDigits_24 ?_
    refine r_bipush (pc := 25) 10 dX6_readDigits_25 (by decide) ?_
    refine r_idiv (pc := 27) dX6_readDigits_27 (by decide) ?_
    refine r_istore_2 (pc := 28) dX6_readDigits_28 rfl (by decide) ?_
    refine r_iinc_3 (pc := 29) (-1) dX6_readDigits_29 (by decide) rfl (by decide) ?_
    refine r_goto (pc := 32) 10 dX6_readDigits_32 (by decide) ?_
    refine r_iload_3 (pc := 10) dX6_readDigits_10 ?_
    refine r_if_lt (pc := 11) 35 dX6_readDigits_11 (by decide) (fun _ => ?_) (fun c11 => absurd (by decide) (c11))
    refine r_vret (pc := 35) dX6_readDigits_35 rfl rfl rfl
  | succ j ih =>
    intro n hn
    have e5 : 5 - n = j + 1 := by omega
    refine r_iload_3 (pc := 10) dX6_readDigits_10 ?_
    refine r_if_lt (pc := 11) 35 dX6_readDigits_11 (by decide) (fun c11 => absurd c11 (Int32.not_lt.mpr (nI_pos' (by omega)))) (fun _ => ?_)
    refine r_aload_0 (pc := 14) dX6_readDigits_14 ?_
    refine r_f_X6_digits (pc := 15) fl_X6_43 dX6_readDigits_15 ?_
    refine r_iload_3 (pc := 18) dX6_readDigits_18 ?_
    refine r_iload_2 (pc := 19) dX6_readDigits_19 ?_
    refine r_bipush (pc := 20) 10 dX6_readDigits_20 (by decide) ?_
    refine r_irem (pc := 22) dX6_readDigits_22 (by decide) ?_
    refine r_w6_st_digits (pc := 23)  (by omega) dX6_readDigits_23 ?_
    refine r_iload_2 (pc := 24) dX6_readDigits_24 ?_
    refine r_bipush (pc := 25) 10 dX6_readDigits_25 (by decide) ?_
    refine r_idiv (pc := 27) dX6_readDigits_27 (by decide) ?_
    refine r_istore_2 (pc := 28) dX6_readDigits_28 rfl (by decide) ?_
    refine r_iinc_3 (pc := 29) (-1) dX6_readDigits_29 (by decide) rfl (by decide) ?_
    refine r_goto (pc := 32) 10 dX6_readDigits_32 (by decide) ?_
    exact ((ih (n + 1) (by omega)).L (by rw [show nI (j + 1) + -1 = nI (j + 1) - 1 from (Int32.sub_eq_add_neg _ 1).symm, nI_pred]; rfl)).w (by rw [wth, e5]; rfl)
theorem ct_X6_readDigits {h : Wd} {S : SG} {x : Int32} : Ct mX6_readDigits [.ref 0, .int x] (wx h S) none (wx h (S.sd (wth S.dig x 6))) := by
  refine Ct.of (Z := List.replicate 2 .null) (by decide) (Nat.le_of_ble_eq_true rfl) (fun z hz => List.eq_of_mem_replicate hz) ?_
  show WW mX6_readDigits 0 [.ref 0, .int x, .null, .null] [] _ _ _
  refine r_iload_1 (pc := 0) dX6_readDigits_0 ?_
  refine r_istore_2 (pc := 1) dX6_readDigits_1 rfl (by decide) ?_
  refine r_aload_0 (pc := 2) dX6_readDigits_2 ?_
  refine r_f_X6_digits (pc := 3) fl_X6_43 dX6_readDigits_3 ?_
  refine r_w6_len_digits (pc := 6)  dX6_readDigits_6 ?_
  refine r_iconst (pc := 7) 1 dX6_readDigits_7 (by decide) ?_
  refine r_isub (pc := 8) dX6_readDigits_8 ?_
  refine r_istore_3 (pc := 9) dX6_readDigits_9 rfl (by decide) ?_
  exact (lp_X6_readDigits (S := S) 5 0 rfl).L rfl
theorem ct_X6_digitAt {h : Wd} {S : SG} {d : Nat} (hd : d < 6) : Ct mX6_digitAt [.ref 0, .int (nI d)] (wx h S) (some (.int (S.dig d))) (wx h S) := by
  refine Ct.of (Z := List.replicate 0 .null) (by decide) (Nat.le_of_ble_eq_true rfl) (fun z hz => List.eq_of_mem_replicate hz) ?_
  show WW mX6_digitAt 0 [.ref 0, .int (nI d)] [] _ _ _
  refine r_iload_1 (pc := 0) dX6_digitAt_0 ?_
  refine r_if_lt (pc := 1) 22 dX6_digitAt_1 (by decide) (fun c1 => absurd c1 (Int32.not_lt.mpr (nI_pos' (by omega)))) (fun _ => ?_)
  refine r_iload_1 (pc := 4) dX6_digitAt_4 ?_
  refine r_aload_0 (pc := 5) dX6_digitAt_5 ?_
  refine r_f_X6_digits (pc := 6) fl_X6_43 dX6_digitAt_6 ?_
  refine r_w6_len_digits (pc := 9)  dX6_digitAt_9 ?_
  refine r_icmp_ge (pc := 10) 22 dX6_digitAt_10 (by decide) (fun c10 => absurd c10 (nI_ge (a := d) (b := 6) (by omega) (by decide))) (fun _ => ?_)
  refine r_aload_0 (pc := 13) dX6_digitAt_13 ?_
  refine r_f_X6_digits (pc := 14) fl_X6_43 dX6_digitAt_14 ?_
  refine r_iload_1 (pc := 17) dX6_digitAt_17 ?_
  refine r_w6_ld_digits (pc := 18)  (by omega) dX6_digitAt_18 ?_
  refine r_goto (pc := 19) 23 dX6_digitAt_19 (by decide) ?_
  refine r_iret (pc := 23) dX6_digitAt_23 rfl (by first | rfl | simp_all [bI]) rfl
def d2B (w : Nat → Int32) (men : Int32) : Nat → Nat → Bool
  | _, 0 => true
  | m, r + 1 => isM (w m) && decide (w (w m).toNatClampNeg = nI m) && (bt men m || decide (w m = nI m)) && d2B w men (m + 1) r
theorem lp_X6_areTwos {h : Wd} {S : SG} : ∀ r m, m + r = 6 → ∀ z : Value, WW mX6_digitsAreTwos 2 [.ref 0, .int (nI m), z] [] (wx h S) (some (.int (bI (d2B S.dig (wc_men S.now.camp) m r)))) (wx h S) := by
  intro r
  induction r with
  | zero =>
    intro m hm z
    obtain rfl : m = 6 := by omega
    refine r_iload_1 (pc := 2) dX6_digitsAreTwos_2 ?_
    refine r_bipush (pc := 3) 6 dX6_digitsAreTwos_3 (by decide) ?_
    refine r_icmp_ge (pc := 5) 59 dX6_digitsAreTwos_5 (by decide) (fun _ => ?_) (fun c5 => absurd (by decide) (c5))
    refine r_iconst (pc := 59) 1 dX6_digitsAreTwos_59 (by decide) ?_
    refine r_zret (pc := 60) dX6_digitsAreTwos_60 rfl (by first | rfl | exact bI_nar _) (by first | rfl | simp_all [bI]) rfl
  | succ r ih =>
    intro m hm z
    have hm6 : m < 6 := by omega
    by_cases h1 : isM (S.dig m) = true
    · obtain ⟨d, hd, ed⟩ := isM_t h1
      have en : (nI d).toNatClampNeg = d := ci (n := 6) hd (by decide)
      have e0 : d2B S.dig (wc_men S.now.camp) m (r + 1) = (decide (S.dig d = nI m) && (bt (wc_men S.now.camp) m || decide (nI d = nI m)) && d2B S.dig (wc_men S.now.camp) (m + 1) r) := by
        rw [d2B, h1, ed, en]
        rfl
      rw [e0]
      have cg : Ct mX6_digitAt [.ref 0, .int (nI m)] (wx h S) (some (.int (nI d))) (wx h S) := ed ▸ ct_X6_digitAt hm6
      refine r_iload_1 (pc := 2) dX6_digitsAreTwos_2 ?_
      refine r_bipush (pc := 3) 6 dX6_digitsAreTwos_3 (by decide) ?_
      refine r_icmp_ge (pc := 5) 59 dX6_digitsAreTwos_5 (by decide) (fun c5 => absurd c5 (nI_ge (a := m) (b := 6) (by omega) (by decide))) (fun _ => ?_)
      refine r_aload_0 (pc := 8) dX6_digitsAreTwos_8 ?_
      refine r_iload_1 (pc := 9) dX6_digitsAreTwos_9 ?_
      refine r_cV1_1 (pc := 10) (cg) cv_X6_digitAt ⟨Nat.le_of_ble_eq_true rfl, Nat.le_of_ble_eq_true rfl⟩ ml_X6_225 dX6_digitsAreTwos_10 (by decide) rfl rfl rfl (Nat.le_of_ble_eq_true rfl) ?_
      refine r_istore_2 (pc := 13) dX6_digitsAreTwos_13 rfl (by decide) ?_
      refine r_iload_2 (pc := 14) dX6_digitsAreTwos_14 ?_
      refine r_cS1_1 (pc := 15) (ct_X6_isManNumber) cs_X6_isManNumber ⟨Nat.le_of_ble_eq_true rfl, Nat.le_of_ble_eq_true rfl⟩ ml_X6_75 dX6_digitsAreTwos_15 rfl (Nat.le_of_ble_eq_true rfl) ?_
      refine r_if_eq (pc := 18) 30 dX6_digitsAreTwos_18 (by decide) (fun c18 => absurd c18 (by rw [isM_n hd]; decide)) (fun _ => ?_)
      refine r_aload_0 (pc := 21) dX6_digitsAreTwos_21 ?_
      refine r_iload_2 (pc := 22) dX6_digitsAreTwos_22 ?_
      refine r_cV1_1 (pc := 23) (ct_X6_digitAt hd) cv_X6_digitAt ⟨Nat.le_of_ble_eq_true rfl, Nat.le_of_ble_eq_true rfl⟩ ml_X6_225 dX6_digitsAreTwos_23 (by decide) rfl rfl rfl (Nat.le_of_ble_eq_true rfl) ?_
      refine r_iload_1 (pc := 26) dX6_digitsAreTwos_26 ?_
      refine r_icmp_eq (pc := 27) 32 dX6_digitsAreTwos_27 (by decide) (fun c27 => ?_) (fun c27 => ?_)
      · refine r_iload_2 (pc := 32) dX6_digitsAreTwos_32 ?_
        refine r_iload_1 (pc := 33) dX6_digitsAreTwos_33 ?_
        refine r_icmp_eq (pc := 34) 53 dX6_digitsAreTwos_34 (by decide) (fun c34 => ?_) (fun c34 => ?_)
        · refine r_inc_1 (pc := 53) dX6_digitsAreTwos_53 rfl (by decide) ?_
          refine r_goto (pc := 56) 2 dX6_digitsAreTwos_56 (by decide) ?_
          exact (ih (m + 1) (by omega) _).r (by rw [c34, decide_eq_true c27, decide_eq_true rfl, Bool.or_true, Bool.true_and, Bool.true_and])
        · refine r_aload_0 (pc := 37) dX6_digitsAreTwos_37 ?_
          refine r_f_X6_now (pc := 38) fl_X6_10 dX6_digitsAreTwos_38 ?_
          refine r_g_X1_camp (pc := 41) (List.mem_of_getElem? (i := 0) rfl) dX6_digitsAreTwos_41 ?_
          refine r_iload_1 (pc := 44) dX6_digitsAreTwos_44 ?_
          refine r_cV1_1 (pc := 45) ((ct_X0_isThere (by decide)).at sXc1 sXc1) cv_X0_isThere ⟨Nat.le_of_ble_eq_true rfl, Nat.le_of_ble_eq_true rfl⟩ ml_X6_85 dX6_digitsAreTwos_45 (by decide) rfl rfl rfl (Nat.le_of_ble_eq_true rfl) ?_
          refine r_if_ne (pc := 48) 53 dX6_digitsAreTwos_48 (by decide) (fun c48 => ?_) (fun c48 => ?_)
          · refine r_inc_1 (pc := 53) dX6_digitsAreTwos_53 rfl (by decide) ?_
            refine r_goto (pc := 56) 2 dX6_digitsAreTwos_56 (by decide) ?_
            exact (ih (m + 1) (by omega) _).r (by rw [hasB_n hm6, bI_n0] at c48; rw [c48, decide_eq_true c27, Bool.true_or, Bool.true_and, Bool.true_and])
          · refine r_iconst (pc := 51) 0 dX6_digitsAreTwos_51 (by decide) ?_
            refine r_zret (pc := 52) dX6_digitsAreTwos_52 rfl (by first | rfl | exact bI_nar _) (by rw [hasB_n hm6, bI_0] at c48; rw [c48, decide_eq_false c34, decide_eq_true c27]; rfl) rfl
      · refine r_iconst (pc := 30) 0 dX6_digitsAreTwos_30 (by decide) ?_
        refine r_zret (pc := 31) dX6_digitsAreTwos_31 rfl (by first | rfl | exact bI_nar _) (by rw [decide_eq_false c27]; rfl) rfl
    · have h2 : isM (S.dig m) = false := Bool.eq_false_iff.mpr h1
      refine r_iload_1 (pc := 2) dX6_digitsAreTwos_2 ?_
      refine r_bipush (pc := 3) 6 dX6_digitsAreTwos_3 (by decide) ?_
      refine r_icmp_ge (pc := 5) 59 dX6_digitsAreTwos_5 (by decide) (fun c5 => absurd c5 (nI_ge (a := m) (b := 6) (by omega) (by decide))) (fun _ => ?_)
      refine r_aload_0 (pc := 8) dX6_digitsAreTwos_8 ?_
      refine r_iload_1 (pc := 9) dX6_digitsAreTwos_9 ?_
      refine r_cV1_1 (pc := 10) (ct_X6_digitAt hm6) cv_X6_digitAt ⟨Nat.le_of_ble_eq_true rfl, Nat.le_of_ble_eq_true rfl⟩ ml_X6_225 dX6_digitsAreTwos_10 (by decide) rfl rfl rfl (Nat.le_of_ble_eq_true rfl) ?_
      refine r_istore_2 (pc := 13) dX6_digitsAreTwos_13 rfl (by decide) ?_
      refine r_iload_2 (pc := 14) dX6_digitsAreTwos_14 ?_
      refine r_cS1_1 (pc := 15) (ct_X6_isManNumber) cs_X6_isManNumber ⟨Nat.le_of_ble_eq_true rfl, Nat.le_of_ble_eq_true rfl⟩ ml_X6_75 dX6_digitsAreTwos_15 rfl (Nat.le_of_ble_eq_true rfl) ?_
      refine r_if_eq (pc := 18) 30 dX6_digitsAreTwos_18 (by decide) (fun _ => ?_) (fun c18 => absurd (by rw [h2]; rfl) (c18))
      refine r_iconst (pc := 30) 0 dX6_digitsAreTwos_30 (by decide) ?_
      refine r_zret (pc := 31) dX6_digitsAreTwos_31 rfl (by first | rfl | exact bI_nar _) (by rw [d2B, h2]; rfl) rfl
theorem ct_X6_digitsAreTwos {h : Wd} {S : SG} : Ct mX6_digitsAreTwos [.ref 0] (wx h S) (some (.int (bI (d2B S.dig (wc_men S.now.camp) 0 6)))) (wx h S) := by
  refine Ct.of (Z := List.replicate 2 .null) (by decide) (Nat.le_of_ble_eq_true rfl) (fun z hz => List.eq_of_mem_replicate hz) ?_
  show WW mX6_digitsAreTwos 0 [.ref 0, .null, .null] [] _ _ _
  refine r_iconst (pc := 0) 0 dX6_digitsAreTwos_0 (by decide) ?_
  refine r_istore_1 (pc := 1) dX6_digitsAreTwos_1 rfl (by decide) ?_
  exact lp_X6_areTwos 6 0 rfl _
theorem ct_X6_wouldShare {h : Wd} {S : SG} {a b : Nat} (ha : a < 6) (hb : b < 6) (hd : ∀ m, m < 6 → ∃ d, d < 6 ∧ S.dig m = nI d) : Ct mX6_wouldRatherShare [.ref 0, .int (nI a), .int (nI b)] (wx h S) (some (.int (bI (wdL (wc_goldOn S.now.camp) (wc_known S.now.camp) (wc_men S.now.camp) S.dig a b)))) (wx h S) := by
  obtain ⟨da, hda, ea⟩ := hd a ha
  obtain ⟨db, hdb, eb⟩ := hd b hb
  have ena : (nI da).toNatClampNeg = da := ci (n := 6) hda (by decide)
  have enb : (nI db).toNatClampNeg = db := ci (n := 6) hdb (by decide)
  have ca : Ct mX6_digitAt [.ref 0, .int (nI a)] (wx h S) (some (.int (nI da))) (wx h S) := ea ▸ ct_X6_digitAt ha
  have cb : Ct mX6_digitAt [.ref 0, .int (nI b)] (wx h S) (some (.int (nI db))) (wx h S) := eb ▸ ct_X6_digitAt hb
  have e0 : wdL (wc_goldOn S.now.camp) (wc_known S.now.camp) (wc_men S.now.camp) S.dig a b = ((bt (wc_men S.now.camp) a && bt (wc_men S.now.camp) b && !decide (nI da = nI b)) && (decide (twS (wc_goldOn S.now.camp) (wc_known S.now.camp) a da < twS (wc_goldOn S.now.camp) (wc_known S.now.camp) a b) && decide (twS (wc_goldOn S.now.camp) (wc_known S.now.camp) b db < twS (wc_goldOn S.now.camp) (wc_known S.now.camp) a b))) := by
    rw [wdL, ea, eb, ena, enb]
  rw [e0]
  refine Ct.of (Z := List.replicate 3 .null) (by decide) (Nat.le_of_ble_eq_true rfl) (fun z hz => List.eq_of_mem_replicate hz) ?_
  show WW mX6_wouldRatherShare 0 [.ref 0, .int (nI a), .int (nI b), .null, .null, .null] [] _ _ _
  refine r_aload_0 (pc := 0) dX6_wouldRatherShare_0 ?_
  refine r_f_X6_now (pc := 1) fl_X6_10 dX6_wouldRatherShare_1 ?_
  refine r_g_X1_camp (pc := 4) (List.mem_of_getElem? (i := 0) rfl) dX6_wouldRatherShare_4 ?_
  refine r_astore_3 (pc := 7) dX6_wouldRatherShare_7 rfl (by decide) ?_
  refine r_aload_0 (pc := 8) dX6_wouldRatherShare_8 ?_
  refine r_iload_1 (pc := 9) dX6_wouldRatherShare_9 ?_
  refine r_cV1_1 (pc := 10) (ca) cv_X6_digitAt ⟨Nat.le_of_ble_eq_true rfl, Nat.le_of_ble_eq_true rfl⟩ ml_X6_225 dX6_wouldRatherShare_10 (by decide) rfl rfl rfl (Nat.le_of_ble_eq_true rfl) ?_
  refine r_istore_4 (pc := 13) dX6_wouldRatherShare_13 rfl (by decide) ?_
  refine r_aload_3 (pc := 15) dX6_wouldRatherShare_15 ?_
  refine r_iload_1 (pc := 16) dX6_wouldRatherShare_16 ?_
  refine r_cV1_1 (pc := 17) ((ct_X0_isThere (by decide)).at sXc1 sXc1) cv_X0_isThere ⟨Nat.le_of_ble_eq_true rfl, Nat.le_of_ble_eq_true rfl⟩ ml_X6_85 dX6_wouldRatherShare_17 (by decide) rfl rfl rfl (Nat.le_of_ble_eq_true rfl) ?_
  refine r_if_eq (pc := 20) 37 dX6_wouldRatherShare_20 (by decide) (fun c20 => ?_) (fun c20 => ?_)
  · rw [hasB_n ha, bI_0] at c20
    refine r_iconst (pc := 37) 0 dX6_wouldRatherShare_37 (by decide) ?_
    refine r_zret (pc := 38) dX6_wouldRatherShare_38 rfl (by first | rfl | exact bI_nar _) (by rw [c20]; rfl) rfl
  · rw [hasB_n ha, bI_n0] at c20
    refine r_aload_3 (pc := 23) dX6_wouldRatherShare_23 ?_
    refine r_iload_2 (pc := 24) dX6_wouldRatherShare_24 ?_
    refine r_cV1_1 (pc := 25) ((ct_X0_isThere (by decide)).at sXc1 sXc1) cv_X0_isThere ⟨Nat.le_of_ble_eq_true rfl, Nat.le_of_ble_eq_true rfl⟩ ml_X6_85 dX6_wouldRatherShare_25 (by decide) rfl rfl rfl (Nat.le_of_ble_eq_true rfl) ?_
    refine r_if_eq (pc := 28) 37 dX6_wouldRatherShare_28 (by decide) (fun c28 => ?_) (fun c28 => ?_)
    · rw [hasB_n hb, bI_0] at c28
      refine r_iconst (pc := 37) 0 dX6_wouldRatherShare_37 (by decide) ?_
      refine r_zret (pc := 38) dX6_wouldRatherShare_38 rfl (by first | rfl | exact bI_nar _) (by rw [c20, c28]; rfl) rfl
    · rw [hasB_n hb, bI_n0] at c28
      refine r_iload_4 (pc := 31) dX6_wouldRatherShare_31 ?_
      refine r_iload_2 (pc := 33) dX6_wouldRatherShare_33 ?_
      refine r_icmp_ne (pc := 34) 39 dX6_wouldRatherShare_34 (by decide) (fun c34 => ?_) (fun c34 => ?_)
      · refine r_aload_3 (pc := 39) dX6_wouldRatherShare_39 ?_
        refine r_iload_1 (pc := 40) dX6_wouldRatherShare_40 ?_
        refine r_iload_2 (pc := 41) dX6_wouldRatherShare_41 ?_
        refine r_cV1_2 (pc := 42) ((ct_X0_twiceShare (by decide) ha hb).at sXc1 sXc1) cv_X0_twiceShare ⟨Nat.le_of_ble_eq_true rfl, Nat.le_of_ble_eq_true rfl⟩ ml_X6_228 dX6_wouldRatherShare_42 (by decide) rfl rfl rfl (Nat.le_of_ble_eq_true rfl) ?_
        refine r_istore_5 (pc := 45) dX6_wouldRatherShare_45 rfl (by decide) ?_
        refine r_iload_5 (pc := 47) dX6_wouldRatherShare_47 ?_
        refine r_aload_3 (pc := 49) dX6_wouldRatherShare_49 ?_
        refine r_iload_1 (pc := 50) dX6_wouldRatherShare_50 ?_
        refine r_iload_4 (pc := 51) dX6_wouldRatherShare_51 ?_
        refine r_cV1_2 (pc := 53) ((ct_X0_twiceShare (by decide) ha hda).at sXc1 sXc1) cv_X0_twiceShare ⟨Nat.le_of_ble_eq_true rfl, Nat.le_of_ble_eq_true rfl⟩ ml_X6_228 dX6_wouldRatherShare_53 (by decide) rfl rfl rfl (Nat.le_of_ble_eq_true rfl) ?_
        refine r_icmp_le (pc := 56) 78 dX6_wouldRatherShare_56 (by decide) (fun c56 => ?_) (fun c56 => ?_)
        · refine r_iconst (pc := 78) 0 dX6_wouldRatherShare_78 (by decide) ?_
          refine r_zret (pc := 79) dX6_wouldRatherShare_79 rfl (by first | rfl | exact bI_nar _) (by rw [decide_eq_false (Int32.not_lt.mpr c56), Bool.false_and, Bool.and_false]; rfl) rfl
        · refine r_iload_5 (pc := 59) dX6_wouldRatherShare_59 ?_
          refine r_aload_3 (pc := 61) dX6_wouldRatherShare_61 ?_
          refine r_iload_2 (pc := 62) dX6_wouldRatherShare_62 ?_
          refine r_aload_0 (pc := 63) dX6_wouldRatherShare_63 ?_
          refine r_iload_2 (pc := 64) dX6_wouldRatherShare_64 ?_
          refine r_cV1_1 (pc := 65) (cb) cv_X6_digitAt ⟨Nat.le_of_ble_eq_true rfl, Nat.le_of_ble_eq_true rfl⟩ ml_X6_225 dX6_wouldRatherShare_65 (by decide) rfl rfl rfl (Nat.le_of_ble_eq_true rfl) ?_
          refine r_cV1_2 (pc := 68) ((ct_X0_twiceShare (by decide) hb hdb).at sXc1 sXc1) cv_X0_twiceShare ⟨Nat.le_of_ble_eq_true rfl, Nat.le_of_ble_eq_true rfl⟩ ml_X6_228 dX6_wouldRatherShare_68 (by decide) rfl rfl rfl (Nat.le_of_ble_eq_true rfl) ?_
          refine r_icmp_le (pc := 71) 78 dX6_wouldRatherShare_71 (by decide) (fun c71 => ?_) (fun c71 => ?_)
          · refine r_iconst (pc := 78) 0 dX6_wouldRatherShare_78 (by decide) ?_
            refine r_zret (pc := 79) dX6_wouldRatherShare_79 rfl (by first | rfl | exact bI_nar _) (by rw [decide_eq_false (Int32.not_lt.mpr c71), Bool.and_false, Bool.and_false]; rfl) rfl
          · refine r_iconst (pc := 74) 1 dX6_wouldRatherShare_74 (by decide) ?_
            refine r_goto (pc := 75) 79 dX6_wouldRatherShare_75 (by decide) ?_
            refine r_zret (pc := 79) dX6_wouldRatherShare_79 rfl (by first | rfl | exact bI_nar _) (by rw [c20, c28, decide_eq_false c34, decide_eq_true (i_nle c56), decide_eq_true (i_nle c71)]; rfl) rfl
      · refine r_iconst (pc := 37) 0 dX6_wouldRatherShare_37 (by decide) ?_
        refine r_zret (pc := 38) dX6_wouldRatherShare_38 rfl (by first | rfl | exact bI_nar _) (by rw [c20, c28, decide_eq_true c34]; rfl) rfl
theorem lp_X6_lv2 {h : Wd} {S : SG} {a : Nat} {x R : Int32} (ha : a < 6) (hd : ∀ m, m < 6 → ∃ d, d < 6 ∧ S.dig m = nI d) : ∀ r b, b + r = 6 → (∀ d, lv2 (wdL (wc_goldOn S.now.camp) (wc_known S.now.camp) (wc_men S.now.camp) S.dig) a r = some d → R = 10 * nI a + nI d) → (lv2 (wdL (wc_goldOn S.now.camp) (wc_known S.now.camp) (wc_men S.now.camp) S.dig) a r = none → WW mX6_leaves 66 [.ref 0, .int x, .int (nI a), .int (nI 6)] [] (wx h S) (some (.int R)) (wx h S)) → WW mX6_leaves 38 [.ref 0, .int x, .int (nI a), .int (nI b)] [] (wx h S) (some (.int R)) (wx h S) := by
  intro r
  induction r with
  | zero =>
    intro b hb k1 k2
    obtain rfl : b = 6 := by omega
    refine r_iload_3 (pc := 38) dX6_leaves_38 ?_
    refine r_bipush (pc := 39) 6 dX6_leaves_39 (by decide) ?_
    refine r_icmp_ge (pc := 41) 66 dX6_leaves_41 (by decide) (fun _ => ?_) (fun c41 => absurd (nI_le (a := 6) (b := 6) (by omega) (by omega)) (c41))
    exact k2 rfl
  | succ r ih =>
    intro b hb k1 k2
    have eb : 6 - (r + 1) = b := by omega
    rw [lv2, eb] at k1 k2
    refine r_iload_3 (pc := 38) dX6_leaves_38 ?_
    refine r_bipush (pc := 39) 6 dX6_leaves_39 (by decide) ?_
    refine r_icmp_ge (pc := 41) 66 dX6_leaves_41 (by decide) (fun c41 => absurd c41 (nI_ge (a := b) (b := 6) (by omega) (by decide))) (fun _ => ?_)
    refine r_aload_0 (pc := 44) dX6_leaves_44 ?_
    refine r_iload_2 (pc := 45) dX6_leaves_45 ?_
    refine r_iload_3 (pc := 46) dX6_leaves_46 ?_
    refine r_cV1_2 (pc := 47) (ct_X6_wouldShare ha (by omega) hd) cv_X6_wouldRatherShare ⟨Nat.le_of_ble_eq_true rfl, Nat.le_of_ble_eq_true rfl⟩ ml_X6_211 dX6_leaves_47 (by decide) rfl rfl rfl (Nat.le_of_ble_eq_true rfl) ?_
    refine r_if_eq (pc := 50) 60 dX6_leaves_50 (by decide) (fun c50 => ?_) (fun c50 => ?_)
    · rw [bI_0] at c50
      refine r_inc_3 (pc := 60) dX6_leaves_60 rfl (by decide) ?_
      refine r_goto (pc := 63) 38 dX6_leaves_63 (by decide) ?_
      exact ih (b + 1) (by omega) (fun d e => k1 d (by rw [c50]; exact e)) (fun e => k2 (by rw [c50]; exact e))
    · rw [bI_n0] at c50
      refine r_bipush (pc := 53) 10 dX6_leaves_53 (by decide) ?_
      refine r_iload_2 (pc := 55) dX6_leaves_55 ?_
      refine r_imul (pc := 56) dX6_leaves_56 ?_
      refine r_iload_3 (pc := 57) dX6_leaves_57 ?_
      refine r_iadd (pc := 58) dX6_leaves_58 ?_
      refine r_iret (pc := 59) dX6_leaves_59 rfl (by rw [k1 b (by rw [c50]; rfl)]) rfl
theorem lp_X6_lv1 {h : Wd} {S : SG} {x R : Int32} (hd : ∀ m, m < 6 → ∃ d, d < 6 ∧ S.dig m = nI d) : ∀ r a, a + r = 6 → R = lv1 (wdL (wc_goldOn S.now.camp) (wc_known S.now.camp) (wc_men S.now.camp) S.dig) r → ∀ z, WW mX6_leaves 30 [.ref 0, .int x, .int (nI a), z] [] (wx h S) (some (.int R)) (wx h S) := by
  intro r
  induction r with
  | zero =>
    intro a ha e z
    obtain rfl : a = 6 := by omega
    refine r_iload_2 (pc := 30) dX6_leaves_30 ?_
    refine r_bipush (pc := 31) 6 dX6_leaves_31 (by decide) ?_
    refine r_icmp_ge (pc := 33) 72 dX6_leaves_33 (by decide) (fun _ => ?_) (fun c33 => absurd (nI_le (a := 6) (b := 6) (by omega) (by omega)) (c33))
    refine r_bipush (pc := 72) (-6) dX6_leaves_72 (by decide) ?_
    refine r_iret (pc := 74) dX6_leaves_74 rfl (by rw [e]; rfl) rfl
  | succ r ih =>
    intro a ha e z
    have ea : 6 - (r + 1) = a := by omega
    rw [lv1, ea] at e
    refine r_iload_2 (pc := 30) dX6_leaves_30 ?_
    refine r_bipush (pc := 31) 6 dX6_leaves_31 (by decide) ?_
    refine r_icmp_ge (pc := 33) 72 dX6_leaves_33 (by decide) (fun c33 => absurd c33 (nI_ge (a := a) (b := 6) (by omega) (by decide))) (fun _ => ?_)
    refine r_iload_2 (pc := 36) dX6_leaves_36 ?_
    refine r_istore_3 (pc := 37) dX6_leaves_37 rfl (by decide) ?_
    refine lp_X6_lv2 (by omega) hd (r + 1) a ha (fun d ed => by rw [e, ed]) (fun en => ?_)
    rw [en] at e
    refine r_inc_2 (pc := 66) dX6_leaves_66 rfl (by decide) ?_
    refine r_goto (pc := 69) 30 dX6_leaves_69 (by decide) ?_
    exact ih (a + 1) (by omega) e _
theorem ct_X6_leavesR {h : Wd} {S : SG} {x : Int32} (hb : inR x 0 999999 = false) : Ct mX6_leaves [.ref 0, .int x] (wx h S) (some (.int (-2))) (wx h S) := by
  refine Ct.of (Z := List.replicate 2 .null) (by decide) (Nat.le_of_ble_eq_true rfl) (fun z hz => List.eq_of_mem_replicate hz) ?_
  show WW mX6_leaves 0 [.ref 0, .int x, .null, .null] [] _ _ _
  refine r_iload_1 (pc := 0) dX6_leaves_0 ?_
  refine r_iconst (pc := 1) 0 dX6_leaves_1 (by decide) ?_
  refine r_ldc (pc := 2) dX6_leaves_2 ki_X6_203 ?_
  refine r_cS1_3 (pc := 4) (ct_X6_isWithin) cs_X6_isWithin ⟨Nat.le_of_ble_eq_true rfl, Nat.le_of_ble_eq_true rfl⟩ ml_X6_60 dX6_leaves_4 rfl (Nat.le_of_ble_eq_true rfl) ?_
  refine r_if_ne (pc := 7) 13 dX6_leaves_7 (by decide) (fun c7 => absurd (by rw [hb]; rfl) c7) (fun _ => ?_)
  refine r_bipush (pc := 10) (-2) dX6_leaves_10 (by decide) ?_
  refine r_iret (pc := 12) dX6_leaves_12 rfl (by first | rfl | simp_all [bI]) rfl
theorem ct_X6_leavesB {h : Wd} {S : SG} {x : Int32} (hb : inR x 0 999999 = true) (hd : d2B (wth S.dig x 6) (wc_men S.now.camp) 0 6 = false) : Ct mX6_leaves [.ref 0, .int x] (wx h S) (some (.int (-2))) (wx h (S.sd (wth S.dig x 6))) := by
  refine Ct.of (Z := List.replicate 2 .null) (by decide) (Nat.le_of_ble_eq_true rfl) (fun z hz => List.eq_of_mem_replicate hz) ?_
  show WW mX6_leaves 0 [.ref 0, .int x, .null, .null] [] _ _ _
  refine r_iload_1 (pc := 0) dX6_leaves_0 ?_
  refine r_iconst (pc := 1) 0 dX6_leaves_1 (by decide) ?_
  refine r_ldc (pc := 2) dX6_leaves_2 ki_X6_203 ?_
  refine r_cS1_3 (pc := 4) (ct_X6_isWithin) cs_X6_isWithin ⟨Nat.le_of_ble_eq_true rfl, Nat.le_of_ble_eq_true rfl⟩ ml_X6_60 dX6_leaves_4 rfl (Nat.le_of_ble_eq_true rfl) ?_
  refine r_if_ne (pc := 7) 13 dX6_leaves_7 (by decide) (fun _ => ?_) (fun c7 => absurd c7 (by rw [hb]; decide))
  refine r_aload_0 (pc := 13) dX6_leaves_13 ?_
  refine r_iload_1 (pc := 14) dX6_leaves_14 ?_
  refine r_cV0_1 (pc := 15) (ct_X6_readDigits) cv_X6_readDigits ⟨Nat.le_of_ble_eq_true rfl, Nat.le_of_ble_eq_true rfl⟩ ml_X6_204 dX6_leaves_15 (by decide) rfl rfl rfl (Nat.le_of_ble_eq_true rfl) ?_
  refine r_aload_0 (pc := 18) dX6_leaves_18 ?_
  refine r_cV1_0 (pc := 19) (ct_X6_digitsAreTwos) cv_X6_digitsAreTwos ⟨Nat.le_of_ble_eq_true rfl, Nat.le_of_ble_eq_true rfl⟩ ml_X6_207 dX6_leaves_19 (by decide) rfl rfl rfl (Nat.le_of_ble_eq_true rfl) ?_
  refine r_if_ne (pc := 22) 28 dX6_leaves_22 (by decide) (fun c22 => absurd (by show bI (d2B (wth S.dig x 6) (wc_men S.now.camp) 0 6) = 0; rw [hd]; rfl) c22) (fun _ => ?_)
  refine r_bipush (pc := 25) (-2) dX6_leaves_25 (by decide) ?_
  refine r_iret (pc := 27) dX6_leaves_27 rfl (by first | rfl | simp_all [bI]) rfl
theorem ct_X6_leaves {h : Wd} {S : SG} {x : Int32} (hb : inR x 0 999999 = true) (hd : d2B (wth S.dig x 6) (wc_men S.now.camp) 0 6 = true) (hw : ∀ m, m < 6 → ∃ d, d < 6 ∧ wth S.dig x 6 m = nI d) : Ct mX6_leaves [.ref 0, .int x] (wx h S) (some (.int (lv1 (wdL (wc_goldOn S.now.camp) (wc_known S.now.camp) (wc_men S.now.camp) (wth S.dig x 6)) 6))) (wx h (S.sd (wth S.dig x 6))) := by
  refine Ct.of (Z := List.replicate 2 .null) (by decide) (Nat.le_of_ble_eq_true rfl) (fun z hz => List.eq_of_mem_replicate hz) ?_
  show WW mX6_leaves 0 [.ref 0, .int x, .null, .null] [] _ _ _
  refine r_iload_1 (pc := 0) dX6_leaves_0 ?_
  refine r_iconst (pc := 1) 0 dX6_leaves_1 (by decide) ?_
  refine r_ldc (pc := 2) dX6_leaves_2 ki_X6_203 ?_
  refine r_cS1_3 (pc := 4) (ct_X6_isWithin) cs_X6_isWithin ⟨Nat.le_of_ble_eq_true rfl, Nat.le_of_ble_eq_true rfl⟩ ml_X6_60 dX6_leaves_4 rfl (Nat.le_of_ble_eq_true rfl) ?_
  refine r_if_ne (pc := 7) 13 dX6_leaves_7 (by decide) (fun _ => ?_) (fun c7 => absurd c7 (by rw [hb]; decide))
  refine r_aload_0 (pc := 13) dX6_leaves_13 ?_
  refine r_iload_1 (pc := 14) dX6_leaves_14 ?_
  refine r_cV0_1 (pc := 15) (ct_X6_readDigits) cv_X6_readDigits ⟨Nat.le_of_ble_eq_true rfl, Nat.le_of_ble_eq_true rfl⟩ ml_X6_204 dX6_leaves_15 (by decide) rfl rfl rfl (Nat.le_of_ble_eq_true rfl) ?_
  refine r_aload_0 (pc := 18) dX6_leaves_18 ?_
  refine r_cV1_0 (pc := 19) (ct_X6_digitsAreTwos) cv_X6_digitsAreTwos ⟨Nat.le_of_ble_eq_true rfl, Nat.le_of_ble_eq_true rfl⟩ ml_X6_207 dX6_leaves_19 (by decide) rfl rfl rfl (Nat.le_of_ble_eq_true rfl) ?_
  refine r_if_ne (pc := 22) 28 dX6_leaves_22 (by decide) (fun _ => ?_) (fun c22 => absurd c22 (by show ¬ bI (d2B (wth S.dig x 6) (wc_men S.now.camp) 0 6) = 0; rw [hd]; decide))
  refine r_iconst (pc := 28) 0 dX6_leaves_28 (by decide) ?_
  refine r_istore_2 (pc := 29) dX6_leaves_29 rfl (by decide) ?_
  exact lp_X6_lv1 (S := S.sd (wth S.dig x 6)) hw 6 0 rfl rfl _
