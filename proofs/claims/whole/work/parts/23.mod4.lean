/-! THE REFERENCE: weeks, and the calls of parts 1 and 2 -/
theorem clH_same (c : Mod) (m t : Nat) : (∀ i, i ≠ 1 → (clH c m t).1 i = c.1 i) ∧ (clH c m t).2.1 = c.2.1 ∧ (∀ i, i ≠ 6 → i ≠ 7 → (clH c m t).2.2 i = c.2.2 i) := by
  unfold clH
  split
  · exact ⟨fun i hi => va_up_ne _ _ hi, rfl, fun i h1 h2 => (va_up_ne _ _ h2).trans (va_up_ne _ _ h1)⟩
  · exact ⟨fun i hi => va_up_ne _ _ hi, rfl, fun i _ _ => rfl⟩
theorem hpn_same (c : Mod) (what x wy : Int32) : (∀ i, i = 0 ∨ 6 ≤ i → (hpn c what x wy).1 i = c.1 i) ∧ (∀ i, 1 ≤ i → (hpn c what x wy).2.1 i = c.2.1 i) ∧ (∀ i, i < 5 ∨ 8 ≤ i → (hpn c what x wy).2.2 i = c.2.2 i) := by
  unfold hpn
  split
  · exact ⟨fun i hi => va_up_ne _ _ (by omega), fun _ _ => rfl, fun _ _ => rfl⟩
  · split
    · exact ⟨fun _ _ => rfl, fun i hi => va_up_ne _ _ (by omega), fun _ _ => rfl⟩
    · split
      · obtain ⟨a, b, d⟩ := clH_same c x.toNatClampNeg (wm_tent c x.toNatClampNeg).toNatClampNeg
        exact ⟨fun i hi => a i (by omega), fun i _ => congrFun b i, fun i hi => d i (by omega) (by omega)⟩
      · split
        · exact ⟨fun i hi => va_up_ne _ _ (by omega), fun _ _ => rfl, fun _ _ => rfl⟩
        · split
          · exact ⟨fun i hi => va_up_ne _ _ (by omega), fun _ _ => rfl, fun _ _ => rfl⟩
          · obtain ⟨a, b, d⟩ := ngM_same c 6
            exact ⟨fun i hi => a i (by omega), fun i _ => congrFun b i, fun i hi => d i (by omega)⟩
theorem ngM_tent (c : Mod) (n : Nat) : wm_tent (ngM c n) = wm_tent c := (ngM_same c n).1 2 (by decide)
theorem clH_tent (c : Mod) (m t : Nat) : wm_tent (clH c m t) = wm_tent c := (clH_same c m t).1 2 (by decide)
theorem whyF_01 (c : Mod) (what x wy : Int32) : whyF c what x wy = 0 ∨ 0 < whyF c what x wy := by
  unfold whyF
  repeat' split
  all_goals first | exact Or.inl rfl | exact Or.inr (by decide)
theorem whyF_0 {c : Mod} {what x wy : Int32} (h : whyF c what x wy = 0) (hd : ¬ what = 5) : hasB (wm_men c) x = true := by
  unfold whyF at h
  rw [if_neg hd] at h
  by_cases e : hasB (wm_men c) x = true
  · exact e
  · rw [if_neg e] at h
    exact absurd h (by decide)
theorem go_0 : ∀ t, t < 64 → (canG (nI t) 0 = decide (t + 8 < 64)) ∧ nI t + (8 * noB 0 + eaB 0) = nI (t + 8) := by decide +kernel
theorem go_1 : ∀ t, t < 64 → (canG (nI t) 1 = decide (t % 8 < 7)) ∧ nI t + (8 * noB 1 + eaB 1) = nI (t + 1) := by decide +kernel
theorem go_2 : ∀ t, t < 64 → (canG (nI t) 2 = decide (8 ≤ t)) ∧ (8 ≤ t → nI t + (8 * noB 2 + eaB 2) = nI (t - 8)) := by decide +kernel
theorem go_3 : ∀ t, t < 64 → (canG (nI t) 3 = decide (0 < t % 8)) ∧ (0 < t % 8 → nI t + (8 * noB 3 + eaB 3) = nI (t - 1)) := by decide +kernel
theorem canG_ok {t : Nat} {w : Int32} (ht : t < 64) (h : canG (nI t) w = true) : ∃ t2, t2 < 64 ∧ nI t + (8 * noB w + eaB w) = nI t2 := by
  by_cases e0 : w = 0
  · subst e0; obtain ⟨a, b⟩ := go_0 t ht
    rw [a] at h; exact ⟨_, of_decide_eq_true h, b⟩
  by_cases e1 : w = 1
  · subst e1; obtain ⟨a, b⟩ := go_1 t ht
    rw [a] at h; have := of_decide_eq_true h; exact ⟨_, by omega, b⟩
  by_cases e2 : w = 2
  · subst e2; obtain ⟨a, b⟩ := go_2 t ht
    rw [a] at h; have := of_decide_eq_true h; exact ⟨_, by omega, b this⟩
  by_cases e3 : w = 3
  · subst e3; obtain ⟨a, b⟩ := go_3 t ht
    rw [a] at h; have := of_decide_eq_true h; exact ⟨_, by omega, b this⟩
  exact ⟨t, ht, by rw [noB, eaB, if_neg e0, if_neg e1, if_neg e2, if_neg e3]; exact Int32.add_zero _⟩
theorem okT_hpn {c : Mod} {what x wy : Int32} (h : okT (wm_tent c)) (hw : whyF c what x wy = 0) : okT (wm_tent (hpn c what x wy)) := by
  unfold hpn
  split
  · rename_i e0
    obtain ⟨m, hm, rfl, hb⟩ := hasB_t (whyF_0 hw (by rw [e0]; decide))
    obtain ⟨t, ht, et⟩ := h m hm
    rw [ci hm (by decide)]
    refine okT_upd h ?_
    rw [et]
    refine canG_ok ht ?_
    unfold whyF at hw
    rw [if_neg (by rw [e0]; decide), if_pos (by rw [hasB_n hm]; exact hb), if_pos e0, ci hm (by decide), et] at hw
    by_cases hc : canG (nI t) wy = true
    · exact hc
    · rw [if_neg hc] at hw; exact absurd hw (by decide)
  · split
    · exact h
    · split
      · rw [clH_tent]
        exact h
      · split
        · exact h
        · split
          · exact h
          · rw [ngM_tent]
            exact h
def gwI (c : Mod) : Mod := wm_s_nothingMany (wm_s_firstNothing (wm_s_womans (wm_s_badWhy (wm_s_badAct c (-6)) (-6)) 0) (-6)) 0
def gwB (c : Mod) (k : Nat) (a w : Int32) : Mod := wm_s_badWhy (wm_s_badAct (wm_s_actNow c (nI k)) a) w
def gw1 (c : Mod) (k : Nat) : Mod :=
  if whyF c (wm_act c k) (wm_who c k) (wm_way c k) = 0 then hpn (gwB c k (-6) (-6)) (wm_act c k) (wm_who c k) (wm_way c k)
  else gwB c k (nI k) (whyF c (wm_act c k) (wm_who c k) (wm_way c k))
theorem gw1_same (c : Mod) (k : Nat) : (∀ i, i = 0 ∨ 6 ≤ i → (gw1 c k).1 i = c.1 i) ∧ (∀ i, 1 ≤ i → (gw1 c k).2.1 i = c.2.1 i) ∧ (∀ i, i < 5 ∨ 11 ≤ i → (gw1 c k).2.2 i = c.2.2 i) := by
  have eb : ∀ a w, (∀ i, i < 5 ∨ 11 ≤ i → (gwB c k a w).2.2 i = c.2.2 i) := fun a w i hi => (va_up_ne _ _ (by omega)).trans ((va_up_ne _ _ (by omega)).trans (va_up_ne _ _ (by omega)))
  unfold gw1
  split
  · obtain ⟨a, b, d⟩ := hpn_same (gwB c k (-6) (-6)) (wm_act c k) (wm_who c k) (wm_way c k)
    exact ⟨fun i hi => a i hi, fun i hi => b i hi, fun i hi => (d i (by omega)).trans (eb _ _ i hi)⟩
  · exact ⟨fun _ _ => rfl, fun _ _ => rfl, fun i hi => eb _ _ i hi⟩
theorem okT_gw1 {c : Mod} {k : Nat} (h : okT (wm_tent c)) : okT (wm_tent (gw1 c k)) := by
  unfold gw1
  split
  · rename_i e
    exact okT_hpn (c := gwB c k (-6) (-6)) h e
  · exact h
/-- the last r of n acts -/
def gws (n : Nat) : Nat → Mod → Mod
  | 0, c => c
  | r + 1, c => if wm_badAct c < 0 then gws n r (gw1 c (n - (r + 1))) else c
theorem lp_X7_goWeeks {h h' : Wd} {kk n : Nat} (hk : kk + 24 < 76) (hn : n ≤ 60) : ∀ r k c, k + r = n → wm_acts c = nI n → okT (wm_tent c) → h' = wm h kk (gws n r c) → ∀ z, WW mX7_goWeeks 30 [.ref kk, .int (nI k), z] [] (wm h kk c) none h' := by
  intro r
  induction r with
  | zero =>
    intro k c hj ea hT e z
    obtain rfl : k = n := by omega
    refine r_iload_1 (pc := 30) dX7_goWeeks_30 ?_
    refine r_aload_0 (pc := 31) dX7_goWeeks_31 ?_
    refine r_wm_get_acts (pc := 32) hk fl_X7_132 dX7_goWeeks_32 ?_
    rw [ea]
    refine r_icmp_ge (pc := 35) 133 dX7_goWeeks_35 (by decide) (fun _ => ?_) (fun c35 => absurd (nI_le (by omega) (by omega)) (c35))
    refine r_vret (pc := 133) dX7_goWeeks_133 rfl rfl e.symm
  | succ r ih =>
    intro k c hj ea hT e z
    have ek : n - (r + 1) = k := by omega
    have next : wm_badAct c < 0 → ∀ z1, WW mX7_goWeeks 30 [.ref kk, .int (nI (k + 1)), z1] [] (wm h kk (gw1 c k)) none h' := fun hb z1 => ih (k + 1) (gw1 c k) (by omega) (((gw1_same c k).2.2 4 (by omega)).trans ea) (okT_gw1 hT) (by rw [e, gws, if_pos hb, ek]) z1
    clear ih
    rcases whyF_01 c (wm_act c k) (wm_who c k) (wm_way c k) with hw | hw
    · have hw2 : ¬ 0 < whyF c (wm_act c k) (wm_who c k) (wm_way c k) := by rw [hw]; decide
      have e1 : gw1 c k = hpn (gwB c k (-6) (-6)) (wm_act c k) (wm_who c k) (wm_way c k) := by rw [gw1, if_pos hw]
      have cH : Ct mX7_happen [.ref kk, .int (wm_act c k), .int (wm_who c k), .int (wm_way c k)] (wm h kk (gwB c k (-6) (-6))) none (wm h kk (hpn (gwB c k (-6) (-6)) (wm_act c k) (wm_who c k) (wm_way c k))) := by
        by_cases h5 : wm_act c k = 5
        · rw [h5]
          exact ct_X7_happenN hk
        · obtain ⟨m, hm, em, hb⟩ := hasB_t (whyF_0 hw h5)
          rw [em]
          exact ct_X7_happen (c := gwB c k (-6) (-6)) hk hm hT
      refine r_iload_1 (pc := 30) dX7_goWeeks_30 ?_
      refine r_aload_0 (pc := 31) dX7_goWeeks_31 ?_
      refine r_wm_get_acts (pc := 32) hk fl_X7_132 dX7_goWeeks_32 ?_
      rw [ea]
      refine r_icmp_ge (pc := 35) 133 dX7_goWeeks_35 (by decide) (fun c35 => absurd c35 (nI_ge (by omega) (by omega))) (fun _ => ?_)
      refine r_aload_0 (pc := 38) dX7_goWeeks_38 ?_
      refine r_wm_get_badAct (pc := 39) hk fl_X7_179 dX7_goWeeks_39 ?_
      refine r_if_ge (pc := 42) 133 dX7_goWeeks_42 (by decide) (fun c42 => ?_) (fun c42 => ?_)
      · refine r_vret (pc := 133) dX7_goWeeks_133 rfl rfl (by rw [e, gws, if_neg (fun q => absurd q (Int32.not_lt.mpr c42))])
      · refine r_aload_0 (pc := 45) dX7_goWeeks_45 ?_
        refine r_iload_1 (pc := 46) dX7_goWeeks_46 ?_
        refine r_wm_put_actNow (pc := 47) hk fl_X7_163 dX7_goWeeks_47 ?_
        refine r_aload_0 (pc := 50) dX7_goWeeks_50 ?_
        refine r_aload_0 (pc := 51) dX7_goWeeks_51 ?_
        refine r_wm_get_act (pc := 52) hk fl_X7_50 dX7_goWeeks_52 ?_
        refine r_iload_1 (pc := 55) dX7_goWeeks_55 ?_
        refine r_wm_ld_act (pc := 56) hk (by omega) dX7_goWeeks_56 ?_
        refine r_aload_0 (pc := 57) dX7_goWeeks_57 ?_
        refine r_wm_get_who (pc := 58) hk fl_X7_53 dX7_goWeeks_58 ?_
        refine r_iload_1 (pc := 61) dX7_goWeeks_61 ?_
        refine r_wm_ld_who (pc := 62) hk (by omega) dX7_goWeeks_62 ?_
        refine r_aload_0 (pc := 63) dX7_goWeeks_63 ?_
        refine r_wm_get_way (pc := 64) hk fl_X7_56 dX7_goWeeks_64 ?_
        refine r_iload_1 (pc := 67) dX7_goWeeks_67 ?_
        refine r_wm_ld_way (pc := 68) hk (by omega) dX7_goWeeks_68 ?_
        refine r_cV1_3 (pc := 69) (ct_X7_whyNot (c := wm_s_actNow c (nI k)) hk hT) cv_X7_whyNot ⟨Nat.le_of_ble_eq_true rfl, Nat.le_of_ble_eq_true rfl⟩ ml_X7_185 dX7_goWeeks_69 (by omega) (wm_o _ _ _) rfl rfl (Nat.le_of_ble_eq_true rfl) ?_
        refine r_istore_2 (pc := 72) dX7_goWeeks_72 rfl (by decide) ?_
        refine r_aload_0 (pc := 73) dX7_goWeeks_73 ?_
        refine r_iload_2 (pc := 74) dX7_goWeeks_74 ?_
        refine r_if_le (pc := 75) 82 dX7_goWeeks_75 (by decide) (fun _ => ?_) (fun c75 => absurd (Int32.not_lt.mp hw2) (c75))
        refine r_bipush (pc := 82) (-6) dX7_goWeeks_82 (by decide) ?_
        refine r_wm_put_badAct (pc := 84) hk fl_X7_179 dX7_goWeeks_84 ?_
        refine r_aload_0 (pc := 87) dX7_goWeeks_87 ?_
        refine r_iload_2 (pc := 88) dX7_goWeeks_88 ?_
        refine r_if_le (pc := 89) 96 dX7_goWeeks_89 (by decide) (fun _ => ?_) (fun c89 => absurd (Int32.not_lt.mp hw2) (c89))
        refine r_bipush (pc := 96) (-6) dX7_goWeeks_96 (by decide) ?_
        refine r_wm_put_badWhy (pc := 98) hk fl_X7_182 dX7_goWeeks_98 ?_
        refine r_iload_2 (pc := 101) dX7_goWeeks_101 ?_
        refine r_if_ne (pc := 102) 127 dX7_goWeeks_102 (by decide) (fun c102 => absurd (hw) c102) (fun _ => ?_)
        refine r_aload_0 (pc := 105) dX7_goWeeks_105 ?_
        refine r_aload_0 (pc := 106) dX7_goWeeks_106 ?_
        refine r_wm_get_act (pc := 107) hk fl_X7_50 dX7_goWeeks_107 ?_
        refine r_iload_1 (pc := 110) dX7_goWeeks_110 ?_
        refine r_wm_ld_act (pc := 111) hk (by omega) dX7_goWeeks_111 ?_
        refine r_aload_0 (pc := 112) dX7_goWeeks_112 ?_
        refine r_wm_get_who (pc := 113) hk fl_X7_53 dX7_goWeeks_113 ?_
        refine r_iload_1 (pc := 116) dX7_goWeeks_116 ?_
        refine r_wm_ld_who (pc := 117) hk (by omega) dX7_goWeeks_117 ?_
        refine r_aload_0 (pc := 118) dX7_goWeeks_118 ?_
        refine r_wm_get_way (pc := 119) hk fl_X7_56 dX7_goWeeks_119 ?_
        refine r_iload_1 (pc := 122) dX7_goWeeks_122 ?_
        refine r_wm_ld_way (pc := 123) hk (by omega) dX7_goWeeks_123 ?_
        refine r_cV0_3 (pc := 124) (cH) cv_X7_happen ⟨Nat.le_of_ble_eq_true rfl, Nat.le_of_ble_eq_true rfl⟩ ml_X7_189 dX7_goWeeks_124 (by omega) (wm_o _ _ _) rfl rfl (Nat.le_of_ble_eq_true rfl) ?_
        refine r_inc_1 (pc := 127) dX7_goWeeks_127 rfl (by decide) ?_
        refine r_goto (pc := 130) 30 dX7_goWeeks_130 (by decide) ?_
        exact (next (i_nle c42) _).w (by rw [e1])
    · have hw2 : ¬ whyF c (wm_act c k) (wm_who c k) (wm_way c k) ≤ 0 := Int32.not_le.mpr hw
      have hw3 : ¬ whyF c (wm_act c k) (wm_who c k) (wm_way c k) = 0 := fun q => by rw [q] at hw; exact absurd hw (by decide)
      have e1 : gw1 c k = gwB c k (nI k) (whyF c (wm_act c k) (wm_who c k) (wm_way c k)) := by rw [gw1, if_neg hw3]
      refine r_iload_1 (pc := 30) dX7_goWeeks_30 ?_
      refine r_aload_0 (pc := 31) dX7_goWeeks_31 ?_
      refine r_wm_get_acts (pc := 32) hk fl_X7_132 dX7_goWeeks_32 ?_
      rw [ea]
      refine r_icmp_ge (pc := 35) 133 dX7_goWeeks_35 (by decide) (fun c35 => absurd c35 (nI_ge (by omega) (by omega))) (fun _ => ?_)
      refine r_aload_0 (pc := 38) dX7_goWeeks_38 ?_
      refine r_wm_get_badAct (pc := 39) hk fl_X7_179 dX7_goWeeks_39 ?_
      refine r_if_ge (pc := 42) 133 dX7_goWeeks_42 (by decide) (fun c42 => ?_) (fun c42 => ?_)
      · refine r_vret (pc := 133) dX7_goWeeks_133 rfl rfl (by rw [e, gws, if_neg (fun q => absurd q (Int32.not_lt.mpr c42))])
      · refine r_aload_0 (pc := 45) dX7_goWeeks_45 ?_
        refine r_iload_1 (pc := 46) dX7_goWeeks_46 ?_
        refine r_wm_put_actNow (pc := 47) hk fl_X7_163 dX7_goWeeks_47 ?_
        refine r_aload_0 (pc := 50) dX7_goWeeks_50 ?_
        refine r_aload_0 (pc := 51) dX7_goWeeks_51 ?_
        refine r_wm_get_act (pc := 52) hk fl_X7_50 dX7_goWeeks_52 ?_
        refine r_iload_1 (pc := 55) dX7_goWeeks_55 ?_
        refine r_wm_ld_act (pc := 56) hk (by omega) dX7_goWeeks_56 ?_
        refine r_aload_0 (pc := 57) dX7_goWeeks_57 ?_
        refine r_wm_get_who (pc := 58) hk fl_X7_53 dX7_goWeeks_58 ?_
        refine r_iload_1 (pc := 61) dX7_goWeeks_61 ?_
        refine r_wm_ld_who (pc := 62) hk (by omega) dX7_goWeeks_62 ?_
        refine r_aload_0 (pc := 63) dX7_goWeeks_63 ?_
        refine r_wm_get_way (pc := 64) hk fl_X7_56 dX7_goWeeks_64 ?_
        refine r_iload_1 (pc := 67) dX7_goWeeks_67 ?_
        refine r_wm_ld_way (pc := 68) hk (by omega) dX7_goWeeks_68 ?_
        refine r_cV1_3 (pc := 69) (ct_X7_whyNot (c := wm_s_actNow c (nI k)) hk hT) cv_X7_whyNot ⟨Nat.le_of_ble_eq_true rfl, Nat.le_of_ble_eq_true rfl⟩ ml_X7_185 dX7_goWeeks_69 (by omega) (wm_o _ _ _) rfl rfl (Nat.le_of_ble_eq_true rfl) ?_
        refine r_istore_2 (pc := 72) dX7_goWeeks_72 rfl (by decide) ?_
        refine r_aload_0 (pc := 73) dX7_goWeeks_73 ?_
        refine r_iload_2 (pc := 74) dX7_goWeeks_74 ?_
        refine r_if_le (pc := 75) 82 dX7_goWeeks_75 (by decide) (fun c75 => absurd c75 (hw2)) (fun _ => ?_)
        refine r_iload_1 (pc := 78) dX7_goWeeks_78 ?_
        refine r_goto (pc := 79) 84 dX7_goWeeks_79 (by decide) ?_
        refine r_wm_put_badAct (pc := 84) hk fl_X7_179 dX7_goWeeks_84 ?_
        refine r_aload_0 (pc := 87) dX7_goWeeks_87 ?_
        refine r_iload_2 (pc := 88) dX7_goWeeks_88 ?_
        refine r_if_le (pc := 89) 96 dX7_goWeeks_89 (by decide) (fun c89 => absurd c89 (hw2)) (fun _ => ?_)
        refine r_iload_2 (pc := 92) dX7_goWeeks_92 ?_
        refine r_goto (pc := 93) 98 dX7_goWeeks_93 (by decide) ?_
        refine r_wm_put_badWhy (pc := 98) hk fl_X7_182 dX7_goWeeks_98 ?_
        refine r_iload_2 (pc := 101) dX7_goWeeks_101 ?_
        refine r_if_ne (pc := 102) 127 dX7_goWeeks_102 (by decide) (fun _ => ?_) (fun c102 => absurd c102 (hw3))
        refine r_inc_1 (pc := 127) dX7_goWeeks_127 rfl (by decide) ?_
        refine r_goto (pc := 130) 30 dX7_goWeeks_130 (by decide) ?_
        exact (next (i_nle c42) _).w (by rw [e1]; rfl)
theorem ct_X7_goWeeks {h : Wd} {k n : Nat} {c : Mod} (hk : k + 24 < 76) (hn : n ≤ 60) (ea : wm_acts c = nI n) (hT : okT (wm_tent c)) : Ct mX7_goWeeks [.ref k] (wm h k c) none (wm h k (gws n n (gwI c))) := by
  refine Ct.of (Z := List.replicate 2 .null) (by decide) (Nat.le_of_ble_eq_true rfl) (fun z hz => List.eq_of_mem_replicate hz) ?_
  show WW mX7_goWeeks 0 [.ref k, .null, .null] [] _ _ _
  refine r_aload_0 (pc := 0) dX7_goWeeks_0 ?_
  refine r_bipush (pc := 1) (-6) dX7_goWeeks_1 (by decide) ?_
  refine r_wm_put_badAct (pc := 3) hk fl_X7_179 dX7_goWeeks_3 ?_
  refine r_aload_0 (pc := 6) dX7_goWeeks_6 ?_
  refine r_bipush (pc := 7) (-6) dX7_goWeeks_7 (by decide) ?_
  refine r_wm_put_badWhy (pc := 9) hk fl_X7_182 dX7_goWeeks_9 ?_
  refine r_aload_0 (pc := 12) dX7_goWeeks_12 ?_
  refine r_iconst (pc := 13) 0 dX7_goWeeks_13 (by decide) ?_
  refine r_wm_put_womans (pc := 14) hk fl_X7_169 dX7_goWeeks_14 ?_
  refine r_aload_0 (pc := 17) dX7_goWeeks_17 ?_
  refine r_bipush (pc := 18) (-6) dX7_goWeeks_18 (by decide) ?_
  refine r_wm_put_firstNothing (pc := 20) hk fl_X7_160 dX7_goWeeks_20 ?_
  refine r_aload_0 (pc := 23) dX7_goWeeks_23 ?_
  refine r_iconst (pc := 24) 0 dX7_goWeeks_24 (by decide) ?_
  refine r_wm_put_nothingMany (pc := 25) hk fl_X7_166 dX7_goWeeks_25 ?_
  refine r_iconst (pc := 28) 0 dX7_goWeeks_28 (by decide) ?_
  refine r_istore_1 (pc := 29) dX7_goWeeks_29 rfl (by decide) ?_
  exact lp_X7_goWeeks hk hn n 0 (gwI c) (by omega) ea hT rfl _
theorem kp1_same (c : Mod) : ∀ n, (∀ i, i ≠ 15 → (kp1 c n).1 i = c.1 i) ∧ (∀ i, i ≠ 1 → (kp1 c n).2.1 i = c.2.1 i) ∧ (kp1 c n).2.2 = c.2.2
  | 0 => ⟨fun _ _ => rfl, fun _ _ => rfl, rfl⟩
  | n + 1 => by
    obtain ⟨a, b, d⟩ := kp1_same c n
    refine ⟨fun i hi => ?_, fun i hi => ?_, d⟩
    · rw [← a i hi]; exact va_up_ne _ _ hi
    · rw [← b i hi]; exact va_up_ne _ _ hi
theorem kp2_same (c : Mod) : ∀ n, (∀ i, i ≠ 15 → (kp2 c n).1 i = c.1 i) ∧ (kp2 c n).2 = c.2
  | 0 => ⟨fun _ _ => rfl, rfl⟩
  | n + 1 => by
    obtain ⟨a, b⟩ := kp2_same c n
    refine ⟨fun i hi => ?_, b⟩
    rw [← a i hi]; exact va_up_ne _ _ hi
theorem kp_pad (c : Mod) (a b : Nat) : wm_pad (kp2 (kp1 c a) b) = wm_pad c := ((kp2_same (kp1 c a) b).1 11 (by decide)).trans ((kp1_same c a).1 11 (by decide))
theorem kp_tent (c : Mod) (a b : Nat) : wm_tent (kp2 (kp1 c a) b) = wm_tent c := ((kp2_same (kp1 c a) b).1 2 (by decide)).trans ((kp1_same c a).1 2 (by decide))
theorem kp_vals (c : Mod) (a b : Nat) : (kp2 (kp1 c a) b).2.2 = c.2.2 := (congrArg Prod.snd (kp2_same (kp1 c a) b).2).trans (kp1_same c a).2.2
theorem kp_padM (c : Mod) (a b : Nat) : wm_padMany (kp2 (kp1 c a) b) = wm_padMany c := congrFun (kp_vals c a b) 3
theorem kpM_pad (c : Mod) : wm_pad (kpM c) = wm_pad c := kp_pad c 6 64
theorem kpM_tent (c : Mod) : wm_tent (kpM c) = wm_tent c := kp_tent c 6 64
theorem kpM_padM (c : Mod) : wm_padMany (kpM c) = wm_padMany c := kp_padM c 6 64
theorem clM_same (c : Mod) (x y : Int32) : (∀ i, i ≠ 12 → i ≠ 14 → (clM c x y).1 i = c.1 i) ∧ (clM c x y).2.1 = c.2.1 ∧ (∀ i, i ≠ 4 → (clM c x y).2.2 i = c.2.2 i) :=
  ⟨fun i h1 h2 => (va_up_ne _ _ h2).trans (va_up_ne _ _ h1), rfl, fun i h => va_up_ne _ _ h⟩
theorem rd1_same (c : Mod) (b : Bool) (x : Int32) : (∀ i, i < 12 ∨ 14 < i → (rd1 c b x).1 i = c.1 i) ∧ (rd1 c b x).2.1 = c.2.1 ∧ (∀ i, i ≠ 4 → (rd1 c b x).2.2 i = c.2.2 i) := by
  unfold rd1
  split
  · split
    · obtain ⟨p, q, r⟩ := clM_same c (dA x) (dW x)
      exact ⟨fun i hi => p i (by omega) (by omega), q, r⟩
    · exact ⟨fun _ _ => rfl, rfl, fun _ _ => rfl⟩
  · split
    · exact ⟨fun i hi => va_up_ne _ _ (by omega), rfl, fun _ _ => rfl⟩
    · split
      · obtain ⟨p, q, r⟩ := clM_same (wm_s_who c (upd (wm_who c) (wm_acts c).toNatClampNeg 0)) 5 0
        exact ⟨fun i hi => (p i (by omega) (by omega)).trans (va_up_ne _ _ (by omega)), q, r⟩
      · exact ⟨fun i hi => va_up_ne _ _ (by omega), rfl, fun _ _ => rfl⟩
theorem rdM_same (p : Nat → Int32) (c : Mod) : ∀ j, (∀ i, i < 12 ∨ 14 < i → (rdM p j c).1 i = c.1 i) ∧ (rdM p j c).2.1 = c.2.1 ∧ (∀ i, i ≠ 4 → (rdM p j c).2.2 i = c.2.2 i)
  | 0 => ⟨fun _ _ => rfl, rfl, fun i hi => va_up_ne _ _ hi⟩
  | j + 1 => by
    obtain ⟨a, b, d⟩ := rdM_same p c j
    obtain ⟨e, f, g⟩ := rd1_same (rdM p j c) (nmd p j) (p j)
    exact ⟨fun i hi => (e i hi).trans (a i hi), f.trans b, fun i hi => (g i hi).trans (d i hi)⟩
theorem rdN_le (p : Nat → Int32) (n : Nat) : ∀ r, r ≤ n → rdN p n r ≤ n
  | 0, _ => Nat.le_refl _
  | r + 1, h => by
    rw [rdN]
    split
    · exact rdN_le p n r (by omega)
    · omega
