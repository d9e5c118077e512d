/-! WEEKS -/
theorem wk_ne {h : Wd} {k j : Nat} {c : Week} (hj : ¬ j = k) : wk h k c j = h j := by
  simp only [wk]
  rw [if_neg hj]
theorem wp_out {h : Wd} {k j : Nat} {c : Pad} (hj : j < k ∨ k + 1 < j) : wp h k c j = h j := by
  simp only [wp]
  rw [if_neg (by omega), if_neg (by omega)]
theorem wk_wc {h : Wd} {kw kc : Nat} {w : Week} {c : Camp} (hd : kw < kc ∨ kc + 6 < kw) : wk (wc h kc c) kw w = wc (wk h kw w) kc c := by
  funext j
  by_cases e : j = kw
  · subst e
    rw [wk_o, wc_out hd, wk_o]
  · rw [wk_ne e]
    simp only [wc, wk, if_neg e]
theorem wc_wp {h : Wd} {kp kc : Nat} {p : Pad} {c : Camp} (hd : kp + 1 < kc ∨ kc + 6 < kp) : wc (wp h kp p) kc c = wp (wc h kc c) kp p := by
  funext j
  by_cases e : j = kp
  · subst e
    rw [wp_o, wc_out (by omega), wp_o]
  · by_cases e2 : j = kp + 1
    · subst e2
      rw [wp_a_signs, wc_out (by omega), wp_a_signs]
    · simp only [wc, wp, if_neg e, if_neg e2]
theorem wk_wp {h : Wd} {kp kw : Nat} {p : Pad} {w : Week} (hd : kw < kp ∨ kp + 1 < kw) : wk (wp h kp p) kw w = wp (wk h kw w) kp p := by
  funext j
  by_cases e : j = kw
  · subst e
    rw [wk_o, wp_out hd, wk_o]
  · rw [wk_ne e]
    simp only [wp, wk, if_neg e]
theorem ct_X5_countActs {h : Wd} {k : Nat} {c : Week} (hk : k + 0 < 76) : Ct mX5_countActs [.ref k] (wk h k c) (some (.int (wk_acts c))) (wk h k c) := by
  refine Ct.of (Z := List.replicate 0 .null) (by decide) (Nat.le_of_ble_eq_true rfl) (fun z hz => List.eq_of_mem_replicate hz) ?_
  show WW mX5_countActs 0 [.ref k] [] _ _ _
  refine r_aload_0 (pc := 0) dX5_countActs_0 ?_
  refine r_wk_get_acts (pc := 1) hk fl_X5_9 dX5_countActs_1 ?_
  refine r_iret (pc := 4) dX5_countActs_4 rfl (by first | rfl | simp_all [bI]) rfl
theorem ct_X5_badAct {h : Wd} {k : Nat} {c : Week} (hk : k + 0 < 76) : Ct mX5_badAct [.ref k] (wk h k c) (some (.int (wk_bad c))) (wk h k c) := by
  refine Ct.of (Z := List.replicate 0 .null) (by decide) (Nat.le_of_ble_eq_true rfl) (fun z hz => List.eq_of_mem_replicate hz) ?_
  show WW mX5_badAct 0 [.ref k] [] _ _ _
  refine r_aload_0 (pc := 0) dX5_badAct_0 ?_
  refine r_wk_get_bad (pc := 1) hk fl_X5_15 dX5_badAct_1 ?_
  refine r_iret (pc := 4) dX5_badAct_4 rfl (by first | rfl | simp_all [bI]) rfl
theorem ct_X5_badReason {h : Wd} {k : Nat} {c : Week} (hk : k + 0 < 76) : Ct mX5_badReason [.ref k] (wk h k c) (some (.int (wk_reason c))) (wk h k c) := by
  refine Ct.of (Z := List.replicate 0 .null) (by decide) (Nat.le_of_ble_eq_true rfl) (fun z hz => List.eq_of_mem_replicate hz) ?_
  show WW mX5_badReason 0 [.ref k] [] _ _ _
  refine r_aload_0 (pc := 0) dX5_badReason_0 ?_
  refine r_wk_get_reason (pc := 1) hk fl_X5_18 dX5_badReason_1 ?_
  refine r_iret (pc := 4) dX5_badReason_4 rfl (by first | rfl | simp_all [bI]) rfl
theorem ct_X5_firstEmptyClaim {h : Wd} {k : Nat} {c : Week} (hk : k + 0 < 76) : Ct mX5_firstEmptyClaim [.ref k] (wk h k c) (some (.int (wk_firstEmpty c))) (wk h k c) := by
  refine Ct.of (Z := List.replicate 0 .null) (by decide) (Nat.le_of_ble_eq_true rfl) (fun z hz => List.eq_of_mem_replicate hz) ?_
  show WW mX5_firstEmptyClaim 0 [.ref k] [] _ _ _
  refine r_aload_0 (pc := 0) dX5_firstEmptyClaim_0 ?_
  refine r_wk_get_firstEmpty (pc := 1) hk fl_X5_21 dX5_firstEmptyClaim_1 ?_
  refine r_iret (pc := 4) dX5_firstEmptyClaim_4 rfl (by first | rfl | simp_all [bI]) rfl
theorem ct_X5_countEmptyClaims {h : Wd} {k : Nat} {c : Week} (hk : k + 0 < 76) : Ct mX5_countEmptyClaims [.ref k] (wk h k c) (some (.int (wk_empty c))) (wk h k c) := by
  refine Ct.of (Z := List.replicate 0 .null) (by decide) (Nat.le_of_ble_eq_true rfl) (fun z hz => List.eq_of_mem_replicate hz) ?_
  show WW mX5_countEmptyClaims 0 [.ref k] [] _ _ _
  refine r_aload_0 (pc := 0) dX5_countEmptyClaims_0 ?_
  refine r_wk_get_empty (pc := 1) hk fl_X5_24 dX5_countEmptyClaims_1 ?_
  refine r_iret (pc := 4) dX5_countEmptyClaims_4 rfl (by first | rfl | simp_all [bI]) rfl
def wkC (w : Week) (b : Bool) : Week := if b then wk_s_empty (if wk_firstEmpty w = -6 then wk_s_firstEmpty w (wk_acts w) else w) (wk_empty w + 1) else w
theorem wkC_acts (w : Week) (b : Bool) : wk_acts (wkC w b) = wk_acts w := by
  unfold wkC
  cases b with
  | false => rfl
  | true =>
    by_cases e : wk_firstEmpty w = -6
    · simp only [if_pos e]; rfl
    · simp only [if_neg e]; rfl
def actS (s : Week × Camp) (x deed : Int32) : Week × Camp :=
  if rsn s.2 x deed = 0 then
    (if deed = 6 then (wk_s_acts s.1 (wk_acts s.1 + 1), ngt s.2 6)
     else (wk_s_acts (wkC s.1 (decide (deed = 5) && decide (wc_goldOn s.2 (wc_tents s.2 x.toNatClampNeg).toNatClampNeg = 0))) (wk_acts s.1 + 1), pfm s.2 x.toNatClampNeg deed))
  else (wk_s_reason (wk_s_bad s.1 (wk_acts s.1)) (rsn s.2 x deed), s.2)
theorem rsn_0 {c : Camp} {x deed : Int32} (h : rsn c x deed = 0) (hd : ¬ deed = 6) : hasB (wc_men c) x = true := by
  unfold rsn at h
  rw [if_neg hd] at h
  by_cases e : hasB (wc_men c) x = true
  · exact e
  · rw [if_neg e] at h
    exact absurd h (by decide)
theorem ct_X5_act {h : Wd} {kw kc : Nat} {w : Week} {c : Camp} {x deed : Int32} (hw : kw + 0 < 76) (hk : kc + 6 < 76) (hd : kw < kc ∨ kc + 6 < kw) (hT : okT (wc_tents c)) : Ct mX5_act [.ref kw, .ref kc, .int x, .int deed] (wk (wc h kc c) kw w) none (wk (wc h kc (actS (w, c) x deed).2) kw (actS (w, c) x deed).1) := by
  by_cases hr : rsn c x deed = 0
  · by_cases h6 : deed = 6
    · subst h6
      have eA : actS (w, c) x 6 = (wk_s_acts w (wk_acts w + 1), ngt c 6) := by simp only [actS, if_pos hr]; rfl
      rw [eA]
      refine Ct.of (Z := List.replicate 1 .null) (by decide) (Nat.le_of_ble_eq_true rfl) (fun z hz => List.eq_of_mem_replicate hz) ?_
      show WW mX5_act 0 [.ref kw, .ref kc, .int x, .int 6, .null] [] _ _ _
      refine r_aload_1 (pc := 0) dX5_act_0 ?_
      refine r_iload_2 (pc := 1) dX5_act_1 ?_
      refine r_iload_3 (pc := 2) dX5_act_2 ?_
      refine r_cV1_2 (pc := 3) ((ct_X0_reasonAgainst (h := wk h kw w) hk hT).at (wk_wc hd).symm (wk_wc hd).symm) cv_X0_reasonAgainst ⟨Nat.le_of_ble_eq_true rfl, Nat.le_of_ble_eq_true rfl⟩ ml_X5_51 dX5_act_3 (by omega) ((congrFun (wk_wc hd) kc).trans (wc_o _ kc c)) rfl rfl (Nat.le_of_ble_eq_true rfl) ?_
      refine r_istore_4 (pc := 6) dX5_act_6 rfl (by decide) ?_
      refine r_iload_4 (pc := 8) dX5_act_8 ?_
      refine r_if_eq (pc := 10) 28 dX5_act_10 (by decide) (fun _ => ?_) (fun c10 => absurd (hr) (c10))
      refine r_iload_3 (pc := 28) dX5_act_28 ?_
      refine r_iconst (pc := 29) 5 dX5_act_29 (by decide) ?_
      refine r_icmp_ne (pc := 30) 72 dX5_act_30 (by decide) (fun _ => ?_) (fun c30 => absurd c30 (by decide))
      refine r_aload_1 (pc := 72) dX5_act_72 ?_
      refine r_iload_2 (pc := 73) dX5_act_73 ?_
      refine r_iload_3 (pc := 74) dX5_act_74 ?_
      refine r_cV0_2 (pc := 75) ((ct_X0_performN (h := wk h kw w) (c := c) hk).at (wk_wc hd).symm (wk_wc hd).symm) cv_X0_perform ⟨Nat.le_of_ble_eq_true rfl, Nat.le_of_ble_eq_true rfl⟩ ml_X5_63 dX5_act_75 (by omega) ((congrFun (wk_wc hd) kc).trans (wc_o _ kc c)) rfl rfl (Nat.le_of_ble_eq_true rfl) ?_
      refine r_aload_0 (pc := 78) dX5_act_78 ?_
      refine r_dup (pc := 79) dX5_act_79 rfl ?_
      refine r_wk_get_acts (pc := 80) hw fl_X5_9 dX5_act_80 ?_
      refine r_iconst (pc := 83) 1 dX5_act_83 (by decide) ?_
      refine r_iadd (pc := 84) dX5_act_84 ?_
      refine r_wk_put_acts (pc := 85) hw fl_X5_9 dX5_act_85 ?_
      refine r_vret (pc := 88) dX5_act_88 rfl rfl rfl
    · obtain ⟨m, hm, rfl, hb⟩ := hasB_t (rsn_0 hr h6)
      obtain ⟨t, ht, et⟩ := hT m hm
      have em : (nI m).toNatClampNeg = m := ci hm (by decide)
      have en : (nI t).toNatClampNeg = t := ci ht (by decide)
      have eA : actS (w, c) (nI m) deed = (wk_s_acts (wkC w (decide (deed = 5) && decide (wc_goldOn c t = 0))) (wk_acts w + 1), pfm c m deed) := by simp only [actS, if_pos hr, if_neg h6, em, et, en]
      rw [eA]
      have cb : ∀ w' : Week, Ct mX0_perform [.ref kc, .int (nI m), .int deed] (wk (wc h kc c) kw w') none (wk (wc h kc (pfm c m deed)) kw w') := fun w' => (ct_X0_perform (h := wk h kw w') hk hm h6 hT).at (wk_wc hd).symm (wk_wc hd).symm
      refine Ct.of (Z := List.replicate 1 .null) (by decide) (Nat.le_of_ble_eq_true rfl) (fun z hz => List.eq_of_mem_replicate hz) ?_
      show WW mX5_act 0 [.ref kw, .ref kc, .int (nI m), .int deed, .null] [] _ _ _
      refine r_aload_1 (pc := 0) dX5_act_0 ?_
      refine r_iload_2 (pc := 1) dX5_act_1 ?_
      refine r_iload_3 (pc := 2) dX5_act_2 ?_
      refine r_cV1_2 (pc := 3) ((ct_X0_reasonAgainst (h := wk h kw w) hk hT).at (wk_wc hd).symm (wk_wc hd).symm) cv_X0_reasonAgainst ⟨Nat.le_of_ble_eq_true rfl, Nat.le_of_ble_eq_true rfl⟩ ml_X5_51 dX5_act_3 (by omega) ((congrFun (wk_wc hd) kc).trans (wc_o _ kc c)) rfl rfl (Nat.le_of_ble_eq_true rfl) ?_
      refine r_istore_4 (pc := 6) dX5_act_6 rfl (by decide) ?_
      refine r_iload_4 (pc := 8) dX5_act_8 ?_
      refine r_if_eq (pc := 10) 28 dX5_act_10 (by decide) (fun _ => ?_) (fun c10 => absurd (hr) (c10))
      refine r_iload_3 (pc := 28) dX5_act_28 ?_
      refine r_iconst (pc := 29) 5 dX5_act_29 (by decide) ?_
      refine r_icmp_ne (pc := 30) 72 dX5_act_30 (by decide) (fun c30 => ?_) (fun c30 => ?_)
      · refine r_aload_1 (pc := 72) dX5_act_72 ?_
        refine r_iload_2 (pc := 73) dX5_act_73 ?_
        refine r_iload_3 (pc := 74) dX5_act_74 ?_
        refine r_cV0_2 (pc := 75) (cb _) cv_X0_perform ⟨Nat.le_of_ble_eq_true rfl, Nat.le_of_ble_eq_true rfl⟩ ml_X5_63 dX5_act_75 (by omega) ((congrFun (wk_wc hd) kc).trans (wc_o _ kc c)) rfl rfl (Nat.le_of_ble_eq_true rfl) ?_
        refine r_aload_0 (pc := 78) dX5_act_78 ?_
        refine r_dup (pc := 79) dX5_act_79 rfl ?_
        refine r_wk_get_acts (pc := 80) hw fl_X5_9 dX5_act_80 ?_
        refine r_iconst (pc := 83) 1 dX5_act_83 (by decide) ?_
        refine r_iadd (pc := 84) dX5_act_84 ?_
        refine r_wk_put_acts (pc := 85) hw fl_X5_9 dX5_act_85 ?_
        refine r_vret (pc := 88) dX5_act_88 rfl rfl (by have e : (decide (deed = 5) && decide (wc_goldOn c t = 0)) = false := (by simp [c30]); simp only [e]; rfl)
      · refine r_aload_1 (pc := 33) dX5_act_33 ?_
        refine r_aload_1 (pc := 34) dX5_act_34 ?_
        refine r_iload_2 (pc := 35) dX5_act_35 ?_
        refine r_cV1_1 (pc := 36) ((ct_X0_tentOf (h := wk h kw w) hk hm).at (wk_wc hd).symm (wk_wc hd).symm) cv_X0_tentOf ⟨Nat.le_of_ble_eq_true rfl, Nat.le_of_ble_eq_true rfl⟩ ml_X5_57 dX5_act_36 (by omega) ((congrFun (wk_wc hd) kc).trans (wc_o _ kc c)) rfl rfl (Nat.le_of_ble_eq_true rfl) ?_
        rw [et]
        refine r_cV1_1 (pc := 39) ((ct_X0_goldOf (h := wk h kw w) hk ht).at (wk_wc hd).symm (wk_wc hd).symm) cv_X0_goldOf ⟨Nat.le_of_ble_eq_true rfl, Nat.le_of_ble_eq_true rfl⟩ ml_X5_60 dX5_act_39 (by omega) ((congrFun (wk_wc hd) kc).trans (wc_o _ kc c)) rfl rfl (Nat.le_of_ble_eq_true rfl) ?_
        refine r_if_ne (pc := 42) 72 dX5_act_42 (by decide) (fun c42 => ?_) (fun c42 => ?_)
        · refine r_aload_1 (pc := 72) dX5_act_72 ?_
          refine r_iload_2 (pc := 73) dX5_act_73 ?_
          refine r_iload_3 (pc := 74) dX5_act_74 ?_
          refine r_cV0_2 (pc := 75) (cb _) cv_X0_perform ⟨Nat.le_of_ble_eq_true rfl, Nat.le_of_ble_eq_true rfl⟩ ml_X5_63 dX5_act_75 (by omega) ((congrFun (wk_wc hd) kc).trans (wc_o _ kc c)) rfl rfl (Nat.le_of_ble_eq_true rfl) ?_
          refine r_aload_0 (pc := 78) dX5_act_78 ?_
          refine r_dup (pc := 79) dX5_act_79 rfl ?_
          refine r_wk_get_acts (pc := 80) hw fl_X5_9 dX5_act_80 ?_
          refine r_iconst (pc := 83) 1 dX5_act_83 (by decide) ?_
          refine r_iadd (pc := 84) dX5_act_84 ?_
          refine r_wk_put_acts (pc := 85) hw fl_X5_9 dX5_act_85 ?_
          refine r_vret (pc := 88) dX5_act_88 rfl rfl (by have e : (decide (deed = 5) && decide (wc_goldOn c t = 0)) = false := (by simp [c42]); simp only [e]; rfl)
        · refine r_aload_0 (pc := 45) dX5_act_45 ?_
          refine r_wk_get_firstEmpty (pc := 46) hw fl_X5_21 dX5_act_46 ?_
          refine r_bipush (pc := 49) (-6) dX5_act_49 (by decide) ?_
          refine r_icmp_ne (pc := 51) 62 dX5_act_51 (by decide) (fun c51 => ?_) (fun c51 => ?_)
          · refine r_aload_0 (pc := 62) dX5_act_62 ?_
            refine r_dup (pc := 63) dX5_act_63 rfl ?_
            refine r_wk_get_empty (pc := 64) hw fl_X5_24 dX5_act_64 ?_
            refine r_iconst (pc := 67) 1 dX5_act_67 (by decide) ?_
            refine r_iadd (pc := 68) dX5_act_68 ?_
            refine r_wk_put_empty (pc := 69) hw fl_X5_24 dX5_act_69 ?_
            refine r_aload_1 (pc := 72) dX5_act_72 ?_
            refine r_iload_2 (pc := 73) dX5_act_73 ?_
            refine r_iload_3 (pc := 74) dX5_act_74 ?_
            refine r_cV0_2 (pc := 75) (cb _) cv_X0_perform ⟨Nat.le_of_ble_eq_true rfl, Nat.le_of_ble_eq_true rfl⟩ ml_X5_63 dX5_act_75 (by omega) ((congrFun (wk_wc hd) kc).trans (wc_o _ kc c)) rfl rfl (Nat.le_of_ble_eq_true rfl) ?_
            refine r_aload_0 (pc := 78) dX5_act_78 ?_
            refine r_dup (pc := 79) dX5_act_79 rfl ?_
            refine r_wk_get_acts (pc := 80) hw fl_X5_9 dX5_act_80 ?_
            refine r_iconst (pc := 83) 1 dX5_act_83 (by decide) ?_
            refine r_iadd (pc := 84) dX5_act_84 ?_
            refine r_wk_put_acts (pc := 85) hw fl_X5_9 dX5_act_85 ?_
            refine r_vret (pc := 88) dX5_act_88 rfl rfl (by have e : (decide (deed = 5) && decide (wc_goldOn c t = 0)) = true := (by simp [c30, c42]); simp only [e, wkC, if_neg c51, if_true]; rfl)
          · refine r_aload_0 (pc := 54) dX5_act_54 ?_
            refine r_aload_0 (pc := 55) dX5_act_55 ?_
            refine r_wk_get_acts (pc := 56) hw fl_X5_9 dX5_act_56 ?_
            refine r_wk_put_firstEmpty (pc := 59) hw fl_X5_21 dX5_act_59 ?_
            refine r_aload_0 (pc := 62) dX5_act_62 ?_
            refine r_dup (pc := 63) dX5_act_63 rfl ?_
            refine r_wk_get_empty (pc := 64) hw fl_X5_24 dX5_act_64 ?_
            refine r_iconst (pc := 67) 1 dX5_act_67 (by decide) ?_
            refine r_iadd (pc := 68) dX5_act_68 ?_
            refine r_wk_put_empty (pc := 69) hw fl_X5_24 dX5_act_69 ?_
            refine r_aload_1 (pc := 72) dX5_act_72 ?_
            refine r_iload_2 (pc := 73) dX5_act_73 ?_
            refine r_iload_3 (pc := 74) dX5_act_74 ?_
            refine r_cV0_2 (pc := 75) (cb _) cv_X0_perform ⟨Nat.le_of_ble_eq_true rfl, Nat.le_of_ble_eq_true rfl⟩ ml_X5_63 dX5_act_75 (by omega) ((congrFun (wk_wc hd) kc).trans (wc_o _ kc c)) rfl rfl (Nat.le_of_ble_eq_true rfl) ?_
            refine r_aload_0 (pc := 78) dX5_act_78 ?_
            refine r_dup (pc := 79) dX5_act_79 rfl ?_
            refine r_wk_get_acts (pc := 80) hw fl_X5_9 dX5_act_80 ?_
            refine r_iconst (pc := 83) 1 dX5_act_83 (by decide) ?_
            refine r_iadd (pc := 84) dX5_act_84 ?_
            refine r_wk_put_acts (pc := 85) hw fl_X5_9 dX5_act_85 ?_
            refine r_vret (pc := 88) dX5_act_88 rfl rfl (by have e : (decide (deed = 5) && decide (wc_goldOn c t = 0)) = true := (by simp [c30, c42]); simp only [e, wkC, if_pos c51, if_true]; rfl)
  · have eA : actS (w, c) x deed = (wk_s_reason (wk_s_bad w (wk_acts w)) (rsn c x deed), c) := by simp only [actS, if_neg hr]
    rw [eA]
    refine Ct.of (Z := List.replicate 1 .null) (by decide) (Nat.le_of_ble_eq_true rfl) (fun z hz => List.eq_of_mem_replicate hz) ?_
    show WW mX5_act 0 [.ref kw, .ref kc, .int x, .int deed, .null] [] _ _ _
    refine r_aload_1 (pc := 0) dX5_act_0 ?_
    refine r_iload_2 (pc := 1) dX5_act_1 ?_
    refine r_iload_3 (pc := 2) dX5_act_2 ?_
    refine r_cV1_2 (pc := 3) ((ct_X0_reasonAgainst (h := wk h kw w) hk hT).at (wk_wc hd).symm (wk_wc hd).symm) cv_X0_reasonAgainst ⟨Nat.le_of_ble_eq_true rfl, Nat.le_of_ble_eq_true rfl⟩ ml_X5_51 dX5_act_3 (by omega) ((congrFun (wk_wc hd) kc).trans (wc_o _ kc c)) rfl rfl (Nat.le_of_ble_eq_true rfl) ?_
    refine r_istore_4 (pc := 6) dX5_act_6 rfl (by decide) ?_
    refine r_iload_4 (pc := 8) dX5_act_8 ?_
    refine r_if_eq (pc := 10) 28 dX5_act_10 (by decide) (fun c10 => absurd c10 (hr)) (fun _ => ?_)
    refine r_aload_0 (pc := 13) dX5_act_13 ?_
    refine r_aload_0 (pc := 14) dX5_act_14 ?_
    refine r_wk_get_acts (pc := 15) hw fl_X5_9 dX5_act_15 ?_
    refine r_wk_put_bad (pc := 18) hw fl_X5_15 dX5_act_18 ?_
    refine r_aload_0 (pc := 21) dX5_act_21 ?_
    refine r_iload_4 (pc := 22) dX5_act_22 ?_
    refine r_wk_put_reason (pc := 24) hw fl_X5_18 dX5_act_24 ?_
    refine r_vret (pc := 27) dX5_act_27 rfl rfl rfl
theorem okT_upd {te : Nat → Int32} {m : Nat} {v : Int32} (h : okT te) (hv : ∃ t, t < 64 ∧ v = nI t) : okT (upd te m v) := by
  intro j hj
  by_cases e : j = m
  · subst e; rw [pk_us]; exact hv
  · rw [pk_un e]; exact h j hj
theorem stF_0 : ∀ t, t < 64 → stF (nI t) 0 = -6 ∨ (t + 8 < 64 ∧ stF (nI t) 0 = nI (t + 8)) := by decide +kernel
theorem stF_1 : ∀ t, t < 64 → stF (nI t) 1 = -6 ∨ (t + 1 < 64 ∧ stF (nI t) 1 = nI (t + 1)) := by decide +kernel
theorem stF_2 : ∀ t, t < 64 → stF (nI t) 2 = -6 ∨ (8 ≤ t ∧ stF (nI t) 2 = nI (t - 8)) := by decide +kernel
theorem stF_3 : ∀ t, t < 64 → stF (nI t) 3 = -6 ∨ (1 ≤ t ∧ stF (nI t) 3 = nI (t - 1)) := by decide +kernel
theorem stF_ok {t : Nat} {d : Int32} (ht : t < 64) (h : ¬ stF (nI t) d = -6) : ∃ t2, t2 < 64 ∧ stF (nI t) d = nI t2 := by
  by_cases e0 : d = 0
  · subst e0; rcases stF_0 t ht with z | ⟨z, y⟩
    · exact absurd z h
    · exact ⟨_, z, y⟩
  by_cases e1 : d = 1
  · subst e1; rcases stF_1 t ht with z | ⟨z, y⟩
    · exact absurd z h
    · exact ⟨_, z, y⟩
  by_cases e2 : d = 2
  · subst e2; rcases stF_2 t ht with z | ⟨z, y⟩
    · exact absurd z h
    · exact ⟨_, by omega, y⟩
  by_cases e3 : d = 3
  · subst e3; rcases stF_3 t ht with z | ⟨z, y⟩
    · exact absurd z h
    · exact ⟨_, by omega, y⟩
  exact ⟨t, ht, by simp [stF, e0, e1, e2, e3]⟩
theorem rsn_st {c : Camp} {m : Nat} {d : Int32} (hm : m < 6) (h : rsn c (nI m) d = 0) (hd : ¬ d = 6) : ¬ stF (wc_tents c m) d = -6 := by
  intro z
  have h1 := rsn_0 h hd
  unfold rsn at h
  rw [if_neg hd, if_pos h1, ci hm (by decide), if_pos z] at h
  exact absurd h (by decide)
theorem pfm_tents (c : Camp) (m : Nat) (d : Int32) : wc_tents (pfm c m d) = upd (wc_tents c) m (stF (wc_tents c m) d) := by
  unfold pfm
  split
  · rfl
  · split
    · rfl
    · split
      · rfl
      · split <;> rfl
theorem okT_act {s : Week × Camp} {x d : Int32} (h : okT (wc_tents s.2)) : okT (wc_tents (actS s x d).2) := by
  unfold actS
  by_cases hr : rsn s.2 x d = 0
  · rw [if_pos hr]
    by_cases h6 : d = 6
    · rw [if_pos h6]
      show okT (wc_tents (ngt s.2 6))
      rw [(ngt_same s.2 6).2.2.2]
      exact h
    · rw [if_neg h6]
      obtain ⟨m, hm, rfl, hb⟩ := hasB_t (rsn_0 hr h6)
      obtain ⟨t, ht, et⟩ := h m hm
      show okT (wc_tents (pfm s.2 (nI m).toNatClampNeg d))
      rw [ci hm (by decide), pfm_tents]
      refine okT_upd h ?_
      have := rsn_st hm hr h6
      rw [et] at this ⊢
      exact stF_ok ht this
  · rw [if_neg hr]
    exact h
/-- the acts of the last r of n signs -/
def plr (p : Nat → Int32) (n : Nat) : Nat → Week × Camp → Week × Camp
  | 0, s => s
  | 1, s => if wk_bad s.1 = -6 then (if p (n - 1) = 46 then actS s (-1) 6 else s) else s
  | r + 2, s => if wk_bad s.1 = -6 then (if p (n - (r + 2)) = 46 then plr p n (r + 1) (actS s (-1) 6) else plr p n r (actS s (p (n - (r + 2)) - 65) (ddB (p (n - (r + 2) + 1))))) else s
def w0 (w : Week) : Week := (0, -6, -6, -6, 0)
/-- nothing is wrong with the last r signs -/
theorem ffd_night {p : Nat → Int32} {n r j : Nat} (hj : j + (r + 1) = n) (h : ffd p n (r + 1) = -6) (hn : nmd p j = false) (h4 : n < 2 ^ 31) (e : p j = 46) : ffd p n r = -6 ∧ nmd p (j + 1) = false := by
  have ej : n - (r + 1) = j := by omega
  rw [ffd, ej] at h
  by_cases hf : fitS (nmd p j) (p j) = true
  · rw [if_pos hf] at h
    exact ⟨h, by simp [nmd, e]⟩
  · rw [if_neg hf] at h
    have := nI_pos' (n := j) (by omega)
    rw [h] at this
    exact absurd this (by decide)
theorem ffd_man {p : Nat → Int32} {n r j : Nat} (hj : j + (r + 1) = n) (h : ffd p n (r + 1) = -6) (hn : nmd p j = false) (h4 : n < 2 ^ 31) (e : ¬ p j = 46) : isM (p j - 65) = true ∧ ∃ r2, r = r2 + 1 ∧ isDd (p (j + 1)) = true ∧ ffd p n r2 = -6 ∧ nmd p (j + 1 + 1) = false := by
  have ej : n - (r + 1) = j := by omega
  have neg : ∀ z, z ≤ n → ¬ nI z = (-6 : Int32) := fun z hz q => by
    have := nI_pos' (n := z) (by omega)
    rw [q] at this
    exact absurd this (by decide)
  rw [ffd, ej] at h
  by_cases hf : fitS (nmd p j) (p j) = true
  · rw [if_pos hf] at h
    have h1 : isM (p j - 65) = true := by
      rw [hn] at hf
      simpa [fitS, e] using hf
    have h2 : nmd p (j + 1) = true := by simp [nmd, hn, e]
    refine ⟨h1, ?_⟩
    cases r with
    | zero =>
      have : n = j + 1 := by omega
      subst this
      rw [ffd, h2, if_pos rfl] at h
      exact absurd h (neg _ (Nat.le_refl _))
    | succ r2 =>
      have e2 : n - (r2 + 1) = j + 1 := by omega
      rw [ffd, e2, h2] at h
      by_cases hf2 : fitS true (p (j + 1)) = true
      · rw [if_pos hf2] at h
        exact ⟨r2, rfl, hf2, h, by show (!(nmd p (j + 1)) && _) = false; rw [h2]; rfl⟩
      · rw [if_neg hf2] at h
        exact absurd h (neg _ (by omega))
  · rw [if_neg hf] at h
    exact absurd h (neg _ (by omega))
theorem lp_X5_play {h : Wd} {kw kc kp n : Nat} {p : Pad} {h' : Wd} (hw : kw + 0 < 76) (hk : kc + 6 < 76) (hkp : kp + 1 < 76) (hd : kw < kc ∨ kc + 6 < kw) (hd2 : kp + 1 < kc ∨ kc + 6 < kp) (hd3 : kw < kp ∨ kp + 1 < kw) (hc : wp_count p = nI n) (hn : n ≤ 60) :
    ∀ q r, r ≤ q → ∀ j (s : Week × Camp), j + r = n → nmd (wp_signs p) j = false → ffd (wp_signs p) n r = -6 → okT (wc_tents s.2) → h' = wk (wc (wp h kp p) kc (plr (wp_signs p) n r s).2) kw (plr (wp_signs p) n r s).1 → ∀ z, WW mX5_play 30 [.ref kw, .ref kp, .ref kc, .int (nI j), z] [] (wk (wc (wp h kp p) kc s.2) kw s.1) none h' := by
  intro q
  have eP : ∀ (c : Camp) (w : Week), wk (wc (wp h kp p) kc c) kw w = wp (wk (wc h kc c) kw w) kp p := fun c w => by rw [wc_wp hd2, wk_wp hd3]
  have oP : ∀ (c : Camp) (w : Week), wk (wc (wp h kp p) kc c) kw w kp = .inr (2, wp_obj kp p) := fun c w => by rw [eP, wp_o]
  have sA : ∀ (c : Camp) (w : Week) (i : Nat), i < n → Ct mX2_signAt [.ref kp, .int (nI i)] (wk (wc (wp h kp p) kc c) kw w) (some (.int (wp_signs p i))) (wk (wc (wp h kp p) kc c) kw w) := fun c w i hi => (ct_X2_signAt hkp hc hn hi).at (eP c w).symm (eP c w).symm
  have sZ : ∀ (c : Camp) (w : Week), Ct mX2_size [.ref kp] (wk (wc (wp h kp p) kc c) kw w) (some (.int (nI n))) (wk (wc (wp h kp p) kc c) kw w) := fun c w => by
    have := (ct_X2_size (h := wk (wc h kc c) kw w) (c := p) hkp).at (eP c w).symm (eP c w).symm
    rwa [hc] at this
  induction q with
  | zero =>
    intro r hr j s hj hm hf hT e z
    obtain rfl : r = 0 := by omega
    obtain rfl : j = n := by omega
    refine r_iload_3 (pc := 30) dX5_play_30 ?_
    refine r_aload_1 (pc := 31) dX5_play_31 ?_
    refine r_cV1_0 (pc := 32) (sZ _ _) cv_X2_size ⟨Nat.le_of_ble_eq_true rfl, Nat.le_of_ble_eq_true rfl⟩ ml_X5_27 dX5_play_32 (by omega) (oP _ _) rfl rfl (Nat.le_of_ble_eq_true rfl) ?_
    refine r_icmp_ge (pc := 35) 102 dX5_play_35 (by decide) (fun _ => ?_) (fun c35 => absurd (nI_le (by omega) (by omega)) (c35))
    refine r_vret (pc := 102) dX5_play_102 rfl rfl e.symm
  | succ q ih =>
    intro r hr j s hj hm hf hT e z
    cases r with
    | zero =>
      obtain rfl : j = n := by omega
      refine r_iload_3 (pc := 30) dX5_play_30 ?_
      refine r_aload_1 (pc := 31) dX5_play_31 ?_
      refine r_cV1_0 (pc := 32) (sZ _ _) cv_X2_size ⟨Nat.le_of_ble_eq_true rfl, Nat.le_of_ble_eq_true rfl⟩ ml_X5_27 dX5_play_32 (by omega) (oP _ _) rfl rfl (Nat.le_of_ble_eq_true rfl) ?_
      refine r_icmp_ge (pc := 35) 102 dX5_play_35 (by decide) (fun _ => ?_) (fun c35 => absurd (nI_le (by omega) (by omega)) (c35))
      refine r_vret (pc := 102) dX5_play_102 rfl rfl e.symm
    | succ r =>
      have ej : n - (r + 1) = j := by omega
      have eB : ¬ wk_bad s.1 = -6 → plr (wp_signs p) n (r + 1) s = s := fun hb => by
        cases r with
        | zero => show plr (wp_signs p) n 1 s = s; rw [plr, if_neg hb]
        | succ r => rw [plr, if_neg hb]
      have eN : wk_bad s.1 = -6 → wp_signs p j = 46 → plr (wp_signs p) n (r + 1) s = plr (wp_signs p) n r (actS s (-1) 6) := fun hb h4 => by
        cases r with
        | zero => show plr (wp_signs p) n 1 s = actS s (-1) 6; rw [plr, if_pos hb, show n - 1 = j by omega, if_pos h4]
        | succ r => rw [plr, if_pos hb, ej, if_pos h4]
      refine r_iload_3 (pc := 30) dX5_play_30 ?_
      refine r_aload_1 (pc := 31) dX5_play_31 ?_
      refine r_cV1_0 (pc := 32) (sZ _ _) cv_X2_size ⟨Nat.le_of_ble_eq_true rfl, Nat.le_of_ble_eq_true rfl⟩ ml_X5_27 dX5_play_32 (by omega) (oP _ _) rfl rfl (Nat.le_of_ble_eq_true rfl) ?_
      refine r_icmp_ge (pc := 35) 102 dX5_play_35 (by decide) (fun c35 => absurd c35 (nI_ge (by omega) (by omega))) (fun _ => ?_)
      refine r_aload_0 (pc := 38) dX5_play_38 ?_
      refine r_wk_get_bad (pc := 39) hw fl_X5_15 dX5_play_39 ?_
      refine r_bipush (pc := 42) (-6) dX5_play_42 (by decide) ?_
      refine r_icmp_ne (pc := 44) 102 dX5_play_44 (by decide) (fun c44 => ?_) (fun c44 => ?_)
      · refine r_vret (pc := 102) dX5_play_102 rfl rfl (by rw [e, eB c44])
      · refine r_aload_1 (pc := 47) dX5_play_47 ?_
        refine r_iload_3 (pc := 48) dX5_play_48 ?_
        refine r_cV1_1 (pc := 49) (sA _ _ j (by omega)) cv_X2_signAt ⟨Nat.le_of_ble_eq_true rfl, Nat.le_of_ble_eq_true rfl⟩ ml_X5_33 dX5_play_49 (by omega) (oP _ _) rfl rfl (Nat.le_of_ble_eq_true rfl) ?_
        refine r_istore_4 (pc := 52) dX5_play_52 rfl (by decide) ?_
        refine r_iload_4 (pc := 54) dX5_play_54 ?_
        refine r_cS1_1 (pc := 56) (ct_X2_isNight) cs_X2_isNight ⟨Nat.le_of_ble_eq_true rfl, Nat.le_of_ble_eq_true rfl⟩ ml_X5_37 dX5_play_56 rfl (Nat.le_of_ble_eq_true rfl) ?_
        refine r_if_eq (pc := 59) 76 dX5_play_59 (by decide) (fun c59 => ?_) (fun c59 => ?_)
        · rw [bI_0, decide_eq_false_iff_not] at c59
          obtain ⟨hM, r2, rfl, hD, hf2, hm2⟩ := ffd_man hj hf hm (by omega) c59
          refine r_aload_0 (pc := 76) dX5_play_76 ?_
          refine r_aload_2 (pc := 77) dX5_play_77 ?_
          refine r_iload_4 (pc := 78) dX5_play_78 ?_
          refine r_cS1_1 (pc := 80) (ct_X2_manBy) cs_X2_manBy ⟨Nat.le_of_ble_eq_true rfl, Nat.le_of_ble_eq_true rfl⟩ ml_X5_45 dX5_play_80 rfl (Nat.le_of_ble_eq_true rfl) ?_
          refine r_aload_1 (pc := 83) dX5_play_83 ?_
          refine r_iload_3 (pc := 84) dX5_play_84 ?_
          refine r_iconst (pc := 85) 1 dX5_play_85 (by decide) ?_
          refine r_iadd (pc := 86) dX5_play_86 ?_
          rw [← nI_succ]
          refine r_cV1_1 (pc := 87) (sA _ _ (j + 1) (by omega)) cv_X2_signAt ⟨Nat.le_of_ble_eq_true rfl, Nat.le_of_ble_eq_true rfl⟩ ml_X5_33 dX5_play_87 (by omega) (oP _ _) rfl rfl (Nat.le_of_ble_eq_true rfl) ?_
          refine r_cS1_1 (pc := 90) (ct_X2_deedBy) cs_X2_deedBy ⟨Nat.le_of_ble_eq_true rfl, Nat.le_of_ble_eq_true rfl⟩ ml_X5_48 dX5_play_90 rfl (Nat.le_of_ble_eq_true rfl) ?_
          refine r_cV0_3 (pc := 93) (ct_X5_act hw hk hd hT) cv_X5_act ⟨Nat.le_of_ble_eq_true rfl, Nat.le_of_ble_eq_true rfl⟩ ml_X5_41 dX5_play_93 (by omega) (wk_o _ _ _) rfl rfl (Nat.le_of_ble_eq_true rfl) ?_
          refine r_iinc_3 (pc := 96) 2 dX5_play_96 (by decide) rfl (by decide) ?_
          rw [show nI j + 2 = nI (j + 1 + 1) from nI_add j 2]
          refine r_goto (pc := 99) 30 dX5_play_99 (by decide) ?_
          exact ih r2 (by omega) (j + 1 + 1) (actS s (wp_signs p j - 65) (ddB (wp_signs p (j + 1)))) (by omega) hm2 hf2 (okT_act hT) (by rw [e, plr, if_pos c44, ej, if_neg c59]) _
        · rw [bI_n0, decide_eq_true_eq] at c59
          obtain ⟨hf2, hm2⟩ := ffd_night hj hf hm (by omega) c59
          refine r_aload_0 (pc := 62) dX5_play_62 ?_
          refine r_aload_2 (pc := 63) dX5_play_63 ?_
          refine r_iconst (pc := 64) (-1) dX5_play_64 (by decide) ?_
          refine r_bipush (pc := 65) 6 dX5_play_65 (by decide) ?_
          refine r_cV0_3 (pc := 67) (ct_X5_act hw hk hd hT) cv_X5_act ⟨Nat.le_of_ble_eq_true rfl, Nat.le_of_ble_eq_true rfl⟩ ml_X5_41 dX5_play_67 (by omega) (wk_o _ _ _) rfl rfl (Nat.le_of_ble_eq_true rfl) ?_
          refine r_inc_3 (pc := 70) dX5_play_70 rfl (by decide) ?_
          refine r_goto (pc := 73) 99 dX5_play_73 (by decide) ?_
          refine r_goto (pc := 99) 30 dX5_play_99 (by decide) ?_
          exact ih r (by omega) (j + 1) (actS s (-1) 6) (by omega) hm2 hf2 (okT_act hT) (by rw [e, eN c44 c59]) _
theorem ct_X5_play {h : Wd} {kw kc kp n : Nat} {p : Pad} {w : Week} {c : Camp} (hw : kw + 0 < 76) (hk : kc + 6 < 76) (hkp : kp + 1 < 76) (hd : kw < kc ∨ kc + 6 < kw) (hd2 : kp + 1 < kc ∨ kc + 6 < kp) (hd3 : kw < kp ∨ kp + 1 < kw) (hc : wp_count p = nI n) (hn : n ≤ 60) (hf : flt (wp_signs p) n = -6) (hT : okT (wc_tents c)) : Ct mX5_play [.ref kw, .ref kp, .ref kc] (wk (wc (wp h kp p) kc c) kw w) none (wk (wc (wp h kp p) kc (plr (wp_signs p) n n (w0 w, c)).2) kw (plr (wp_signs p) n n (w0 w, c)).1) := by
  refine Ct.of (Z := List.replicate 2 .null) (by decide) (Nat.le_of_ble_eq_true rfl) (fun z hz => List.eq_of_mem_replicate hz) ?_
  show WW mX5_play 0 [.ref kw, .ref kp, .ref kc, .null, .null] [] _ _ _
  refine r_aload_0 (pc := 0) dX5_play_0 ?_
  refine r_iconst (pc := 1) 0 dX5_play_1 (by decide) ?_
  refine r_wk_put_acts (pc := 2) hw fl_X5_9 dX5_play_2 ?_
  refine r_aload_0 (pc := 5) dX5_play_5 ?_
  refine r_bipush (pc := 6) (-6) dX5_play_6 (by decide) ?_
  refine r_wk_put_bad (pc := 8) hw fl_X5_15 dX5_play_8 ?_
  refine r_aload_0 (pc := 11) dX5_play_11 ?_
  refine r_bipush (pc := 12) (-6) dX5_play_12 (by decide) ?_
  refine r_wk_put_reason (pc := 14) hw fl_X5_18 dX5_play_14 ?_
  refine r_aload_0 (pc := 17) dX5_play_17 ?_
  refine r_bipush (pc := 18) (-6) dX5_play_18 (by decide) ?_
  refine r_wk_put_firstEmpty (pc := 20) hw fl_X5_21 dX5_play_20 ?_
  refine r_aload_0 (pc := 23) dX5_play_23 ?_
  refine r_iconst (pc := 24) 0 dX5_play_24 (by decide) ?_
  refine r_wk_put_empty (pc := 25) hw fl_X5_24 dX5_play_25 ?_
  refine r_iconst (pc := 28) 0 dX5_play_28 (by decide) ?_
  refine r_istore_3 (pc := 29) dX5_play_29 rfl (by decide) ?_
  exact lp_X5_play hw hk hkp hd hd2 hd3 hc hn n n (Nat.le_refl _) 0 (w0 w, c) (by omega) rfl hf hT rfl _
