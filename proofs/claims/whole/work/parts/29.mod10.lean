/-! THE REFERENCE: sights, lodes -/
def onF (l c : Int32) : Bool := if l < 8 then decide (c / 8 = l) else if l < 16 then decide (c - c / 8 * 8 = l - 8) else if l < 31 then decide ((c - c / 8 * 8) - c / 8 = l - 23) else decide ((c - c / 8 * 8) + c / 8 = l - 31)
theorem onF_a : ∀ t, t < 64 → ∀ l, l < 46 → onF (nI l) (nI t) = (lthN t).toBitVec.getLsbD l := by decide +kernel
theorem onF_n {t l : Nat} (ht : t < 64) (hl : l < 46) : onF (nI l) (nI t) = kb (lthN t) l := onF_a t ht l hl
theorem ct_X7_isOn {h : Wd} {l c : Int32} : Ct mX7_isOn [.int l, .int c] h (some (.int (bI (onF l c)))) h := by
  refine Ct.of (Z := List.replicate 2 .null) (by decide) (Nat.le_of_ble_eq_true rfl) (fun z hz => List.eq_of_mem_replicate hz) ?_
  show WW mX7_isOn 0 [.int l, .int c, .null, .null] [] _ _ _
  refine r_iload_1 (pc := 0) dX7_isOn_0 ?_
  refine r_bipush (pc := 1) 8 dX7_isOn_1 (by decide) ?_
  refine r_irem (pc := 3) dX7_isOn_3 (by decide) ?_
  refine r_istore_2 (pc := 4) dX7_isOn_4 rfl (by decide) ?_
  refine r_iload_1 (pc := 5) dX7_isOn_5 ?_
  refine r_bipush (pc := 6) 8 dX7_isOn_6 (by decide) ?_
  refine r_idiv (pc := 8) dX7_isOn_8 (by decide) ?_
  refine r_istore_3 (pc := 9) dX7_isOn_9 rfl (by decide) ?_
  refine r_iload_0 (pc := 10) dX7_isOn_10 ?_
  refine r_bipush (pc := 11) 8 dX7_isOn_11 (by decide) ?_
  refine r_icmp_ge (pc := 13) 29 dX7_isOn_13 (by decide) (fun c13 => ?_) (fun c13 => ?_)
  · have d13 := Int32.not_lt.mpr c13
    refine r_iload_0 (pc := 29) dX7_isOn_29 ?_
    refine r_bipush (pc := 30) 16 dX7_isOn_30 (by decide) ?_
    refine r_icmp_ge (pc := 32) 51 dX7_isOn_32 (by decide) (fun c32 => ?_) (fun c32 => ?_)
    · have d32 := Int32.not_lt.mpr c32
      refine r_iload_0 (pc := 51) dX7_isOn_51 ?_
      refine r_bipush (pc := 52) 31 dX7_isOn_52 (by decide) ?_
      refine r_icmp_ge (pc := 54) 75 dX7_isOn_54 (by decide) (fun c54 => ?_) (fun c54 => ?_)
      · have d54 := Int32.not_lt.mpr c54
        refine r_iload_2 (pc := 75) dX7_isOn_75 ?_
        refine r_iload_3 (pc := 76) dX7_isOn_76 ?_
        refine r_iadd (pc := 77) dX7_isOn_77 ?_
        refine r_iload_0 (pc := 78) dX7_isOn_78 ?_
        refine r_bipush (pc := 79) 31 dX7_isOn_79 (by decide) ?_
        refine r_isub (pc := 81) dX7_isOn_81 ?_
        refine r_icmp_ne (pc := 82) 89 dX7_isOn_82 (by decide) (fun c82 => ?_) (fun c82 => ?_)
        · refine r_iconst (pc := 89) 0 dX7_isOn_89 (by decide) ?_
          refine r_zret (pc := 90) dX7_isOn_90 rfl (by first | rfl | exact bI_nar _) (by rw [onF, if_neg d13, if_neg d32, if_neg d54, decide_eq_false c82]; rfl) rfl
        · refine r_iconst (pc := 85) 1 dX7_isOn_85 (by decide) ?_
          refine r_goto (pc := 86) 90 dX7_isOn_86 (by decide) ?_
          refine r_zret (pc := 90) dX7_isOn_90 rfl (by first | rfl | exact bI_nar _) (by rw [onF, if_neg d13, if_neg d32, if_neg d54, decide_eq_true c82]; rfl) rfl
      · have d54 := i_nle c54
        refine r_iload_2 (pc := 57) dX7_isOn_57 ?_
        refine r_iload_3 (pc := 58) dX7_isOn_58 ?_
        refine r_isub (pc := 59) dX7_isOn_59 ?_
        refine r_iload_0 (pc := 60) dX7_isOn_60 ?_
        refine r_bipush (pc := 61) 23 dX7_isOn_61 (by decide) ?_
        refine r_isub (pc := 63) dX7_isOn_63 ?_
        refine r_icmp_ne (pc := 64) 71 dX7_isOn_64 (by decide) (fun c64 => ?_) (fun c64 => ?_)
        · refine r_iconst (pc := 71) 0 dX7_isOn_71 (by decide) ?_
          refine r_goto (pc := 72) 90 dX7_isOn_72 (by decide) ?_
          refine r_zret (pc := 90) dX7_isOn_90 rfl (by first | rfl | exact bI_nar _) (by rw [onF, if_neg d13, if_neg d32, if_pos d54, decide_eq_false c64]; rfl) rfl
        · refine r_iconst (pc := 67) 1 dX7_isOn_67 (by decide) ?_
          refine r_goto (pc := 68) 90 dX7_isOn_68 (by decide) ?_
          refine r_zret (pc := 90) dX7_isOn_90 rfl (by first | rfl | exact bI_nar _) (by rw [onF, if_neg d13, if_neg d32, if_pos d54, decide_eq_true c64]; rfl) rfl
    · have d32 := i_nle c32
      refine r_iload_2 (pc := 35) dX7_isOn_35 ?_
      refine r_iload_0 (pc := 36) dX7_isOn_36 ?_
      refine r_bipush (pc := 37) 8 dX7_isOn_37 (by decide) ?_
      refine r_isub (pc := 39) dX7_isOn_39 ?_
      refine r_icmp_ne (pc := 40) 47 dX7_isOn_40 (by decide) (fun c40 => ?_) (fun c40 => ?_)
      · refine r_iconst (pc := 47) 0 dX7_isOn_47 (by decide) ?_
        refine r_goto (pc := 48) 90 dX7_isOn_48 (by decide) ?_
        refine r_zret (pc := 90) dX7_isOn_90 rfl (by first | rfl | exact bI_nar _) (by rw [onF, if_neg d13, if_pos d32, decide_eq_false c40]; rfl) rfl
      · refine r_iconst (pc := 43) 1 dX7_isOn_43 (by decide) ?_
        refine r_goto (pc := 44) 90 dX7_isOn_44 (by decide) ?_
        refine r_zret (pc := 90) dX7_isOn_90 rfl (by first | rfl | exact bI_nar _) (by rw [onF, if_neg d13, if_pos d32, decide_eq_true c40]; rfl) rfl
  · have d13 := i_nle c13
    refine r_iload_3 (pc := 16) dX7_isOn_16 ?_
    refine r_iload_0 (pc := 17) dX7_isOn_17 ?_
    refine r_icmp_ne (pc := 18) 25 dX7_isOn_18 (by decide) (fun c18 => ?_) (fun c18 => ?_)
    · refine r_iconst (pc := 25) 0 dX7_isOn_25 (by decide) ?_
      refine r_goto (pc := 26) 90 dX7_isOn_26 (by decide) ?_
      refine r_zret (pc := 90) dX7_isOn_90 rfl (by first | rfl | exact bI_nar _) (by rw [onF, if_pos d13, decide_eq_false c18]; rfl) rfl
    · refine r_iconst (pc := 21) 1 dX7_isOn_21 (by decide) ?_
      refine r_goto (pc := 22) 90 dX7_isOn_22 (by decide) ?_
      refine r_zret (pc := 90) dX7_isOn_90 rfl (by first | rfl | exact bI_nar _) (by rw [onF, if_pos d13, decide_eq_true c18]; rfl) rfl
theorem ct_X7_isOnN {h : Wd} {l t : Nat} (hl : l < 46) (ht : t < 64) : Ct mX7_isOn [.int (nI l), .int (nI t)] h (some (.int (bI (kb (lthN t) l)))) h := by
  rw [← onF_n ht hl]
  exact ct_X7_isOn
theorem ct_X7_seenB {h : Wd} {k : Nat} {c : Mod} {x y : Int32} (hk : k + 24 < 76) (hb : isC x = false) : Ct mX7_seen [.ref k, .int x, .int y] (wm h k c) (some (.int (-2))) (wm h k c) := by
  refine Ct.of (Z := List.replicate 0 .null) (by decide) (Nat.le_of_ble_eq_true rfl) (fun z hz => List.eq_of_mem_replicate hz) ?_
  show WW mX7_seen 0 [.ref k, .int x, .int y] [] _ _ _
  refine r_iload_1 (pc := 0) dX7_seen_0 ?_
  refine r_cS1_1 (pc := 1) (ct_X7_isCell) cs_X7_isCell ⟨Nat.le_of_ble_eq_true rfl, Nat.le_of_ble_eq_true rfl⟩ ml_X7_96 dX7_seen_1 rfl (Nat.le_of_ble_eq_true rfl) ?_
  refine r_if_ne (pc := 4) 10 dX7_seen_4 (by decide) (fun c4 => absurd (by rw [hb]; rfl) c4) (fun _ => ?_)
  refine r_bipush (pc := 7) (-2) dX7_seen_7 (by decide) ?_
  refine r_iret (pc := 9) dX7_seen_9 rfl (by first | rfl | simp_all [bI]) rfl
theorem ct_X7_seenF {h : Wd} {k : Nat} {c : Mod} {x y : Int32} (hk : k + 24 < 76) (hb : isC x = true) (hs : wm_sights c = 8) : Ct mX7_seen [.ref k, .int x, .int y] (wm h k c) (some (.int (-4))) (wm h k c) := by
  refine Ct.of (Z := List.replicate 0 .null) (by decide) (Nat.le_of_ble_eq_true rfl) (fun z hz => List.eq_of_mem_replicate hz) ?_
  show WW mX7_seen 0 [.ref k, .int x, .int y] [] _ _ _
  refine r_iload_1 (pc := 0) dX7_seen_0 ?_
  refine r_cS1_1 (pc := 1) (ct_X7_isCell) cs_X7_isCell ⟨Nat.le_of_ble_eq_true rfl, Nat.le_of_ble_eq_true rfl⟩ ml_X7_96 dX7_seen_1 rfl (Nat.le_of_ble_eq_true rfl) ?_
  refine r_if_ne (pc := 4) 10 dX7_seen_4 (by decide) (fun _ => ?_) (fun c4 => absurd c4 (by rw [hb]; decide))
  refine r_aload_0 (pc := 10) dX7_seen_10 ?_
  refine r_wm_get_sights (pc := 11) hk fl_X7_267 dX7_seen_11 ?_
  refine r_bipush (pc := 14) 8 dX7_seen_14 (by decide) ?_
  refine r_icmp_ne (pc := 16) 22 dX7_seen_16 (by decide) (fun c16 => absurd (hs) c16) (fun _ => ?_)
  refine r_bipush (pc := 19) (-4) dX7_seen_19 (by decide) ?_
  refine r_iret (pc := 21) dX7_seen_21 rfl (by first | rfl | simp_all [bI]) rfl
def siM (c : Mod) (n : Nat) (x : Int32) (b : Bool) : Mod := wm_s_sights (wm_s_sightIs (wm_s_sightCell c (upd (wm_sightCell c) n x)) (upd (wm_sightIs c) n (bI b))) (nI (n + 1))
theorem ct_X7_seen {h : Wd} {k n : Nat} {c : Mod} {x y : Int32} (hk : k + 24 < 76) (hb : isC x = true) (hs : wm_sights c = nI n) (hn : n < 8) : Ct mX7_seen [.ref k, .int x, .int y] (wm h k c) (some (.int (nI (n + 1)))) (wm h k (siM c n x (!decide (y = 0)))) := by
  refine Ct.of (Z := List.replicate 0 .null) (by decide) (Nat.le_of_ble_eq_true rfl) (fun z hz => List.eq_of_mem_replicate hz) ?_
  show WW mX7_seen 0 [.ref k, .int x, .int y] [] _ _ _
  refine r_iload_1 (pc := 0) dX7_seen_0 ?_
  refine r_cS1_1 (pc := 1) (ct_X7_isCell) cs_X7_isCell ⟨Nat.le_of_ble_eq_true rfl, Nat.le_of_ble_eq_true rfl⟩ ml_X7_96 dX7_seen_1 rfl (Nat.le_of_ble_eq_true rfl) ?_
  refine r_if_ne (pc := 4) 10 dX7_seen_4 (by decide) (fun _ => ?_) (fun c4 => absurd c4 (by rw [hb]; decide))
  refine r_aload_0 (pc := 10) dX7_seen_10 ?_
  refine r_wm_get_sights (pc := 11) hk fl_X7_267 dX7_seen_11 ?_
  refine r_bipush (pc := 14) 8 dX7_seen_14 (by decide) ?_
  rw [hs]
  refine r_icmp_ne (pc := 16) 22 dX7_seen_16 (by decide) (fun _ => ?_) (fun c16 => absurd c16 (fun z => by have := (nI_eq (a := n) (b := 8) (by omega) (by decide)).mp z; omega))
  refine r_aload_0 (pc := 22) dX7_seen_22 ?_
  refine r_wm_get_sightCell (pc := 23) hk fl_X7_41 dX7_seen_23 ?_
  refine r_aload_0 (pc := 26) dX7_seen_26 ?_
  refine r_wm_get_sights (pc := 27) hk fl_X7_267 dX7_seen_27 ?_
  rw [hs]
  refine r_iload_1 (pc := 30) dX7_seen_30 ?_
  refine r_wm_st_sightCell (pc := 31) hk (by omega) dX7_seen_31 ?_
  refine r_aload_0 (pc := 32) dX7_seen_32 ?_
  refine r_wm_get_sightIs (pc := 33) hk fl_X7_44 dX7_seen_33 ?_
  refine r_aload_0 (pc := 36) dX7_seen_36 ?_
  refine r_wm_get_sights (pc := 37) hk fl_X7_267 dX7_seen_37 ?_
  rw [show ∀ v, wm_sights (wm_s_sightCell c v) = nI n from fun _ => hs]
  refine r_iload_2 (pc := 40) dX7_seen_40 ?_
  refine r_if_eq (pc := 41) 48 dX7_seen_41 (by decide) (fun c41 => ?_) (fun c41 => ?_)
  · refine r_iconst (pc := 48) 0 dX7_seen_48 (by decide) ?_
    refine r_wm_st_sightIs (pc := 49) hk (by omega) dX7_seen_49 ?_
    refine r_aload_0 (pc := 50) dX7_seen_50 ?_
    refine r_dup (pc := 51) dX7_seen_51 rfl ?_
    refine r_wm_get_sights (pc := 52) hk fl_X7_267 dX7_seen_52 ?_
    rw [show ∀ v w, wm_sights (wm_s_sightIs (wm_s_sightCell c v) w) = nI n from fun _ _ => hs]
    refine r_iconst (pc := 55) 1 dX7_seen_55 (by decide) ?_
    refine r_iadd (pc := 56) dX7_seen_56 ?_
    rw [← nI_succ]
    refine r_wm_put_sights (pc := 57) hk fl_X7_267 dX7_seen_57 ?_
    refine r_aload_0 (pc := 60) dX7_seen_60 ?_
    refine r_wm_get_sights (pc := 61) hk fl_X7_267 dX7_seen_61 ?_
    refine r_iret (pc := 64) dX7_seen_64 rfl (by first | rfl | simp_all [bI]) (by simp only [siM, c41]; rfl)
  · refine r_iconst (pc := 44) 1 dX7_seen_44 (by decide) ?_
    refine r_goto (pc := 45) 49 dX7_seen_45 (by decide) ?_
    refine r_wm_st_sightIs (pc := 49) hk (by omega) dX7_seen_49 ?_
    refine r_aload_0 (pc := 50) dX7_seen_50 ?_
    refine r_dup (pc := 51) dX7_seen_51 rfl ?_
    refine r_wm_get_sights (pc := 52) hk fl_X7_267 dX7_seen_52 ?_
    rw [show ∀ v w, wm_sights (wm_s_sightIs (wm_s_sightCell c v) w) = nI n from fun _ _ => hs]
    refine r_iconst (pc := 55) 1 dX7_seen_55 (by decide) ?_
    refine r_iadd (pc := 56) dX7_seen_56 ?_
    rw [← nI_succ]
    refine r_wm_put_sights (pc := 57) hk fl_X7_267 dX7_seen_57 ?_
    refine r_aload_0 (pc := 60) dX7_seen_60 ?_
    refine r_wm_get_sights (pc := 61) hk fl_X7_267 dX7_seen_61 ?_
    refine r_iret (pc := 64) dX7_seen_64 rfl (by first | rfl | simp_all [bI]) (by simp only [siM, c41]; rfl)
theorem ct_X7_forget {h : Wd} {k : Nat} {c : Mod} (hk : k + 24 < 76) : Ct mX7_forget [.ref k] (wm h k c) (some (.int (wm_sights c))) (wm h k (wm_s_sights c 0)) := by
  refine Ct.of (Z := List.replicate 1 .null) (by decide) (Nat.le_of_ble_eq_true rfl) (fun z hz => List.eq_of_mem_replicate hz) ?_
  show WW mX7_forget 0 [.ref k, .null] [] _ _ _
  refine r_aload_0 (pc := 0) dX7_forget_0 ?_
  refine r_wm_get_sights (pc := 1) hk fl_X7_267 dX7_forget_1 ?_
  refine r_istore_1 (pc := 4) dX7_forget_4 rfl (by decide) ?_
  refine r_aload_0 (pc := 5) dX7_forget_5 ?_
  refine r_iconst (pc := 6) 0 dX7_forget_6 (by decide) ?_
  refine r_wm_put_sights (pc := 7) hk fl_X7_267 dX7_forget_7 ?_
  refine r_iload_1 (pc := 10) dX7_forget_10 ?_
  refine r_iret (pc := 11) dX7_forget_11 rfl (by first | rfl | simp_all [bI]) rfl
def okSi (c : Mod) (n : Nat) : Prop := ∀ i, i < n → (∃ t, t < 64 ∧ wm_sightCell c i = nI t) ∧ (wm_sightIs c i = 0 ∨ wm_sightIs c i = 1)
def allB (P : Nat → Bool) : Nat → Bool
  | 0 => true
  | n + 1 => allB P n && P n
theorem allB_cong {P Q : Nat → Bool} : ∀ {n : Nat}, (∀ j, j < n → P j = Q j) → allB P n = allB Q n
  | 0, _ => rfl
  | n + 1, h => by rw [allB, allB, allB_cong (fun j hj => h j (by omega)), h n (by omega)]
/-- whether the i-th sight is so with lode l -/
def ft1 (c : Mod) (l i : Nat) : Bool := kb (lthN (wm_sightCell c i).toNatClampNeg) l == decide (wm_sightIs c i = 1)
def ftB (c : Mod) (n l : Nat) : Bool := allB (ft1 c l) n
theorem lp_X7_fits {h : Wd} {k n l : Nat} {c : Mod} (hk : k + 24 < 76) (hl : l < 46) (hs : wm_sights c = nI n) (hn : n ≤ 8) (ho : okSi c n) : ∀ r i, i + r = n → WW mX7_fits 4 [.ref k, .int (nI l), .int (bI (allB (ft1 c l) i)), .int (nI i)] [] (wm h k c) (some (.int (bI (ftB c n l)))) (wm h k c) := by
  intro r
  induction r with
  | zero =>
    intro i hi
    obtain rfl : i = n := by omega
    refine r_iload_3 (pc := 4) dX7_fits_4 ?_
    refine r_aload_0 (pc := 5) dX7_fits_5 ?_
    refine r_wm_get_sights (pc := 6) hk fl_X7_267 dX7_fits_6 ?_
    rw [hs]
    refine r_icmp_ge (pc := 9) 56 dX7_fits_9 (by decide) (fun _ => ?_) (fun c9 => absurd (nI_le (by omega) (by omega)) (c9))
    refine r_iload_2 (pc := 56) dX7_fits_56 ?_
    refine r_zret (pc := 57) dX7_fits_57 rfl (by first | rfl | exact bI_nar _) (by first | rfl | simp_all [bI]) rfl
  | succ r ih =>
    intro i hi
    obtain ⟨⟨t, ht, et⟩, hb⟩ := ho i (by omega)
    have en : (nI t).toNatClampNeg = t := ci ht (by decide)
    have go : ∀ b : Int32, b = bI (allB (ft1 c l) (i + 1)) → WW mX7_fits 4 [.ref k, .int (nI l), .int b, .int (nI (i + 1))] [] (wm h k c) (some (.int (bI (ftB c n l)))) (wm h k c) := fun b e => (ih (i + 1) (by omega)).L (by rw [e])
    clear ih
    have ef : ft1 c l i = (kb (lthN t) l == decide (wm_sightIs c i = 1)) := by rw [ft1, et, en]
    refine r_iload_3 (pc := 4) dX7_fits_4 ?_
    refine r_aload_0 (pc := 5) dX7_fits_5 ?_
    refine r_wm_get_sights (pc := 6) hk fl_X7_267 dX7_fits_6 ?_
    rw [hs]
    refine r_icmp_ge (pc := 9) 56 dX7_fits_9 (by decide) (fun c9 => absurd c9 (nI_ge (by omega) (by omega))) (fun _ => ?_)
    refine r_iload_2 (pc := 12) dX7_fits_12 ?_
    refine r_if_eq (pc := 13) 48 dX7_fits_13 (by decide) (fun c13 => ?_) (fun c13 => ?_)
    · rw [bI_0] at c13
      refine r_iconst (pc := 48) 0 dX7_fits_48 (by decide) ?_
      refine r_istore_2 (pc := 49) dX7_fits_49 rfl (by decide) ?_
      refine r_inc_3 (pc := 50) dX7_fits_50 rfl (by decide) ?_
      refine r_goto (pc := 53) 4 dX7_fits_53 (by decide) ?_
      exact go 0 (by rw [allB, c13]; rfl)
    · rw [bI_n0] at c13
      refine r_iload_1 (pc := 16) dX7_fits_16 ?_
      refine r_aload_0 (pc := 17) dX7_fits_17 ?_
      refine r_wm_get_sightCell (pc := 18) hk fl_X7_41 dX7_fits_18 ?_
      refine r_iload_3 (pc := 21) dX7_fits_21 ?_
      refine r_wm_ld_sightCell (pc := 22) hk (by omega) dX7_fits_22 ?_
      rw [et]
      refine r_cS1_2 (pc := 23) (ct_X7_isOnN hl ht) cs_X7_isOn ⟨Nat.le_of_ble_eq_true rfl, Nat.le_of_ble_eq_true rfl⟩ ml_X7_270 dX7_fits_23 rfl (Nat.le_of_ble_eq_true rfl) ?_
      refine r_aload_0 (pc := 26) dX7_fits_26 ?_
      refine r_wm_get_sightIs (pc := 27) hk fl_X7_44 dX7_fits_27 ?_
      refine r_iload_3 (pc := 30) dX7_fits_30 ?_
      refine r_wm_ld_sightIs (pc := 31) hk (by omega) dX7_fits_31 ?_
      refine r_iconst (pc := 32) 1 dX7_fits_32 (by decide) ?_
      refine r_icmp_ne (pc := 33) 40 dX7_fits_33 (by decide) (fun c33 => ?_) (fun c33 => ?_)
      · refine r_iconst (pc := 40) 0 dX7_fits_40 (by decide) ?_
        refine r_icmp_ne (pc := 41) 48 dX7_fits_41 (by decide) (fun c41 => ?_) (fun c41 => ?_)
        · refine r_iconst (pc := 48) 0 dX7_fits_48 (by decide) ?_
          refine r_istore_2 (pc := 49) dX7_fits_49 rfl (by decide) ?_
          refine r_inc_3 (pc := 50) dX7_fits_50 rfl (by decide) ?_
          refine r_goto (pc := 53) 4 dX7_fits_53 (by decide) ?_
          exact go 0 (by
            have : ft1 c l i = false := by
              rw [ef]
              first
                | (rw [decide_eq_false c33]; revert c41; cases kb (lthN t) l <;> decide)
                | (rw [decide_eq_true c33]; revert c41; cases kb (lthN t) l <;> decide)
            rw [allB, this, Bool.and_false]; rfl)
        · refine r_iconst (pc := 44) 1 dX7_fits_44 (by decide) ?_
          refine r_goto (pc := 45) 49 dX7_fits_45 (by decide) ?_
          refine r_istore_2 (pc := 49) dX7_fits_49 rfl (by decide) ?_
          refine r_inc_3 (pc := 50) dX7_fits_50 rfl (by decide) ?_
          refine r_goto (pc := 53) 4 dX7_fits_53 (by decide) ?_
          exact go 1 (by
            have : ft1 c l i = true := by
              rw [ef]
              first
                | (rw [decide_eq_false c33]; revert c41; cases kb (lthN t) l <;> decide)
                | (rw [decide_eq_true c33]; revert c41; cases kb (lthN t) l <;> decide)
            rw [allB, this, c13]; rfl)
      · refine r_iconst (pc := 36) 1 dX7_fits_36 (by decide) ?_
        refine r_goto (pc := 37) 41 dX7_fits_37 (by decide) ?_
        refine r_icmp_ne (pc := 41) 48 dX7_fits_41 (by decide) (fun c41 => ?_) (fun c41 => ?_)
        · refine r_iconst (pc := 48) 0 dX7_fits_48 (by decide) ?_
          refine r_istore_2 (pc := 49) dX7_fits_49 rfl (by decide) ?_
          refine r_inc_3 (pc := 50) dX7_fits_50 rfl (by decide) ?_
          refine r_goto (pc := 53) 4 dX7_fits_53 (by decide) ?_
          exact go 0 (by
            have : ft1 c l i = false := by
              rw [ef]
              first
                | (rw [decide_eq_false c33]; revert c41; cases kb (lthN t) l <;> decide)
                | (rw [decide_eq_true c33]; revert c41; cases kb (lthN t) l <;> decide)
            rw [allB, this, Bool.and_false]; rfl)
        · refine r_iconst (pc := 44) 1 dX7_fits_44 (by decide) ?_
          refine r_goto (pc := 45) 49 dX7_fits_45 (by decide) ?_
          refine r_istore_2 (pc := 49) dX7_fits_49 rfl (by decide) ?_
          refine r_inc_3 (pc := 50) dX7_fits_50 rfl (by decide) ?_
          refine r_goto (pc := 53) 4 dX7_fits_53 (by decide) ?_
          exact go 1 (by
            have : ft1 c l i = true := by
              rw [ef]
              first
                | (rw [decide_eq_false c33]; revert c41; cases kb (lthN t) l <;> decide)
                | (rw [decide_eq_true c33]; revert c41; cases kb (lthN t) l <;> decide)
            rw [allB, this, c13]; rfl)
theorem ct_X7_fits {h : Wd} {k n l : Nat} {c : Mod} (hk : k + 24 < 76) (hl : l < 46) (hs : wm_sights c = nI n) (hn : n ≤ 8) (ho : okSi c n) : Ct mX7_fits [.ref k, .int (nI l)] (wm h k c) (some (.int (bI (ftB c n l)))) (wm h k c) := by
  refine Ct.of (Z := List.replicate 2 .null) (by decide) (Nat.le_of_ble_eq_true rfl) (fun z hz => List.eq_of_mem_replicate hz) ?_
  show WW mX7_fits 0 [.ref k, .int (nI l), .null, .null] [] _ _ _
  refine r_iconst (pc := 0) 1 dX7_fits_0 (by decide) ?_
  refine r_istore_2 (pc := 1) dX7_fits_1 rfl (by decide) ?_
  refine r_iconst (pc := 2) 0 dX7_fits_2 (by decide) ?_
  refine r_istore_3 (pc := 3) dX7_fits_3 rfl (by decide) ?_
  exact lp_X7_fits hk hl hs hn ho n 0 (by omega)
def ktM (P : Nat → Bool) (i : Int32) : Nat → Nat → Int32
  | c, 0 => if i = -1 then nI c else -6
  | c, r + 1 => if P (46 - (r + 1)) then (if nI c = i then nI (46 - (r + 1)) else ktM P i (c + 1) r) else ktM P i c r
theorem lp_X7_lodes {h : Wd} {k n : Nat} {c : Mod} {i : Int32} (hk : k + 24 < 76) (hs : wm_sights c = nI n) (hn : n ≤ 8) (ho : okSi c n) : ∀ r a l, l + r = 46 → WW mX7_lodes 4 [.ref k, .int i, .int (nI a), .int (nI l)] [] (wm h k c) (some (.int (ktM (ftB c n) i a r))) (wm h k c) := by
  intro r
  induction r with
  | zero =>
    intro a l hl
    obtain rfl : l = 46 := by omega
    refine r_iload_3 (pc := 4) dX7_lodes_4 ?_
    refine r_bipush (pc := 5) 46 dX7_lodes_5 (by decide) ?_
    refine r_icmp_ge (pc := 7) 34 dX7_lodes_7 (by decide) (fun _ => ?_) (fun c7 => absurd (nI_le (a := 46) (b := 46) (by omega) (by omega)) (c7))
    refine r_iload_1 (pc := 34) dX7_lodes_34 ?_
    refine r_iconst (pc := 35) (-1) dX7_lodes_35 (by decide) ?_
    refine r_icmp_ne (pc := 36) 43 dX7_lodes_36 (by decide) (fun c36 => ?_) (fun c36 => ?_)
    · refine r_bipush (pc := 43) (-6) dX7_lodes_43 (by decide) ?_
      refine r_iret (pc := 45) dX7_lodes_45 rfl (by rw [ktM, if_neg c36]) rfl
    · refine r_iload_2 (pc := 39) dX7_lodes_39 ?_
      refine r_goto (pc := 40) 45 dX7_lodes_40 (by decide) ?_
      refine r_iret (pc := 45) dX7_lodes_45 rfl (by rw [ktM, if_pos c36]) rfl
  | succ r ih =>
    intro a l hl
    have el : 46 - (r + 1) = l := by omega
    refine r_iload_3 (pc := 4) dX7_lodes_4 ?_
    refine r_bipush (pc := 5) 46 dX7_lodes_5 (by decide) ?_
    refine r_icmp_ge (pc := 7) 34 dX7_lodes_7 (by decide) (fun c7 => absurd c7 (nI_ge (a := l) (b := 46) (by omega) (by decide))) (fun _ => ?_)
    refine r_aload_0 (pc := 10) dX7_lodes_10 ?_
    refine r_iload_3 (pc := 11) dX7_lodes_11 ?_
    refine r_cV1_1 (pc := 12) (ct_X7_fits hk (by omega) hs hn ho) cv_X7_fits ⟨Nat.le_of_ble_eq_true rfl, Nat.le_of_ble_eq_true rfl⟩ ml_X7_273 dX7_lodes_12 (by omega) (wm_o _ _ _) rfl rfl (Nat.le_of_ble_eq_true rfl) ?_
    refine r_if_eq (pc := 15) 28 dX7_lodes_15 (by decide) (fun c15 => ?_) (fun c15 => ?_)
    · rw [bI_0] at c15
      refine r_inc_3 (pc := 28) dX7_lodes_28 rfl (by decide) ?_
      refine r_goto (pc := 31) 4 dX7_lodes_31 (by decide) ?_
      exact (ih a (l + 1) (by omega)).r (by rw [ktM, el, if_neg (by rw [c15]; decide)])
    · rw [bI_n0] at c15
      refine r_iload_2 (pc := 18) dX7_lodes_18 ?_
      refine r_iload_1 (pc := 19) dX7_lodes_19 ?_
      refine r_icmp_ne (pc := 20) 25 dX7_lodes_20 (by decide) (fun c20 => ?_) (fun c20 => ?_)
      · refine r_inc_2 (pc := 25) dX7_lodes_25 rfl (by decide) ?_
        refine r_inc_3 (pc := 28) dX7_lodes_28 rfl (by decide) ?_
        refine r_goto (pc := 31) 4 dX7_lodes_31 (by decide) ?_
        exact (ih (a + 1) (l + 1) (by omega)).r (by rw [ktM, el, if_pos c15, if_neg c20])
      · refine r_iload_3 (pc := 23) dX7_lodes_23 ?_
        refine r_iret (pc := 24) dX7_lodes_24 rfl (by rw [ktM, el, if_pos c15, if_pos c20]) rfl
theorem ct_X7_lodes {h : Wd} {k n : Nat} {c : Mod} {i : Int32} (hk : k + 24 < 76) (hs : wm_sights c = nI n) (hn : n ≤ 8) (ho : okSi c n) : Ct mX7_lodes [.ref k, .int i] (wm h k c) (some (.int (ktM (ftB c n) i 0 46))) (wm h k c) := by
  refine Ct.of (Z := List.replicate 2 .null) (by decide) (Nat.le_of_ble_eq_true rfl) (fun z hz => List.eq_of_mem_replicate hz) ?_
  show WW mX7_lodes 0 [.ref k, .int i, .null, .null] [] _ _ _
  refine r_iconst (pc := 0) 0 dX7_lodes_0 (by decide) ?_
  refine r_istore_2 (pc := 1) dX7_lodes_1 rfl (by decide) ?_
  refine r_iconst (pc := 2) 0 dX7_lodes_2 (by decide) ?_
  refine r_istore_3 (pc := 3) dX7_lodes_3 rfl (by decide) ?_
  exact lp_X7_lodes hk hs hn ho 46 0 0 rfl
theorem ktM_m1 (P : Nat → Bool) : ∀ r a, r ≤ 46 → a + r < 1000 → ktM P (-1) a r = nI (a + cnt (fun j => P (46 - r + j)) r)
  | 0, a, _, _ => by rw [ktM, if_pos rfl]; rfl
  | r + 1, a, hr, ha => by
    have hne : ¬ nI a = (-1 : Int32) := fun z => by
      have := nI_pos (n := a) (by omega)
      rw [z] at this
      exact absurd (by decide) this
    have e0 : ∀ (Q : Nat → Bool) (n : Nat), cnt Q (n + 1) = (if Q 0 then 1 else 0) + cnt (fun j => Q (j + 1)) n := by
      intro Q n
      induction n with
      | zero => simp [cnt]
      | succ n ih => rw [cnt, ih, cnt]; omega
    rw [ktM, e0]
    have e1 : cnt (fun j => P (46 - (r + 1) + (j + 1))) r = cnt (fun j => P (46 - r + j)) r := cnt_cong (fun j _ => by rw [show 46 - (r + 1) + (j + 1) = 46 - r + j by omega])
    rw [e1]
    simp only [Nat.add_zero]
    by_cases hp : P (46 - (r + 1)) = true
    · rw [if_pos hp, if_neg hne, if_pos hp, ktM_m1 P r (a + 1) (by omega) (by omega), Nat.add_assoc]
    · rw [if_neg hp, if_neg hp, ktM_m1 P r a (by omega) (by omega), Nat.zero_add]
def alN (c : Mod) (n : Nat) : Nat := cnt (ftB c n) 46
theorem ktM_all (P : Nat → Bool) : ktM P (-1) 0 46 = nI (cnt P 46) := by
  rw [ktM_m1 P 46 0 (Nat.le_refl _) (by decide), Nat.zero_add]
  rw [cnt_cong (q := P) (fun j _ => by rw [Nat.sub_self, Nat.zero_add])]
def onN (c : Mod) (n t : Nat) : Nat → Nat := cnt (fun l => kb (lthN t) l && ftB c n l)
theorem lp_X7_linesOn {h : Wd} {k n t : Nat} {c : Mod} (hk : k + 24 < 76) (ht : t < 64) (hs : wm_sights c = nI n) (hn : n ≤ 8) (ho : okSi c n) : ∀ r l, l + r = 46 → WW mX7_linesOn 4 [.ref k, .int (nI t), .int (nI (onN c n t l)), .int (nI l)] [] (wm h k c) (some (.int (nI (onN c n t 46)))) (wm h k c) := by
  intro r
  induction r with
  | zero =>
    intro l hl
    obtain rfl : l = 46 := by omega
    refine r_iload_3 (pc := 4) dX7_linesOn_4 ?_
    refine r_bipush (pc := 5) 46 dX7_linesOn_5 (by decide) ?_
    refine r_icmp_ge (pc := 7) 40 dX7_linesOn_7 (by decide) (fun _ => ?_) (fun c7 => absurd (nI_le (a := 46) (b := 46) (by omega) (by omega)) (c7))
    refine r_iload_2 (pc := 40) dX7_linesOn_40 ?_
    refine r_iret (pc := 41) dX7_linesOn_41 rfl (by first | rfl | simp_all [bI]) rfl
  | succ r ih =>
    intro l hl
    refine r_iload_3 (pc := 4) dX7_linesOn_4 ?_
    refine r_bipush (pc := 5) 46 dX7_linesOn_5 (by decide) ?_
    refine r_icmp_ge (pc := 7) 40 dX7_linesOn_7 (by decide) (fun c7 => absurd c7 (nI_ge (a := l) (b := 46) (by omega) (by decide))) (fun _ => ?_)
    refine r_iload_2 (pc := 10) dX7_linesOn_10 ?_
    refine r_iload_3 (pc := 11) dX7_linesOn_11 ?_
    refine r_iload_1 (pc := 12) dX7_linesOn_12 ?_
    refine r_cS1_2 (pc := 13) (ct_X7_isOnN (by omega) ht) cs_X7_isOn ⟨Nat.le_of_ble_eq_true rfl, Nat.le_of_ble_eq_true rfl⟩ ml_X7_270 dX7_linesOn_13 rfl (Nat.le_of_ble_eq_true rfl) ?_
    refine r_if_eq (pc := 16) 31 dX7_linesOn_16 (by decide) (fun c16 => ?_) (fun c16 => ?_)
    · rw [bI_0] at c16
      refine r_iconst (pc := 31) 0 dX7_linesOn_31 (by decide) ?_
      refine r_iadd (pc := 32) dX7_linesOn_32 ?_
      refine r_istore_2 (pc := 33) dX7_linesOn_33 rfl (by decide) ?_
      refine r_inc_3 (pc := 34) dX7_linesOn_34 rfl (by decide) ?_
      refine r_goto (pc := 37) 4 dX7_linesOn_37 (by decide) ?_
      exact (ih (l + 1) (by omega)).L (by rw [onN, cnt, c16, Bool.false_and, Int32.add_zero]; rfl)
    · rw [bI_n0] at c16
      refine r_aload_0 (pc := 19) dX7_linesOn_19 ?_
      refine r_iload_3 (pc := 20) dX7_linesOn_20 ?_
      refine r_cV1_1 (pc := 21) (ct_X7_fits hk (by omega) hs hn ho) cv_X7_fits ⟨Nat.le_of_ble_eq_true rfl, Nat.le_of_ble_eq_true rfl⟩ ml_X7_273 dX7_linesOn_21 (by omega) (wm_o _ _ _) rfl rfl (Nat.le_of_ble_eq_true rfl) ?_
      refine r_if_eq (pc := 24) 31 dX7_linesOn_24 (by decide) (fun c24 => ?_) (fun c24 => ?_)
      · rw [bI_0] at c24
        refine r_iconst (pc := 31) 0 dX7_linesOn_31 (by decide) ?_
        refine r_iadd (pc := 32) dX7_linesOn_32 ?_
        refine r_istore_2 (pc := 33) dX7_linesOn_33 rfl (by decide) ?_
        refine r_inc_3 (pc := 34) dX7_linesOn_34 rfl (by decide) ?_
        refine r_goto (pc := 37) 4 dX7_linesOn_37 (by decide) ?_
        exact (ih (l + 1) (by omega)).L (by rw [onN, cnt, c16, c24, Int32.add_zero]; rfl)
      · rw [bI_n0] at c24
        refine r_iconst (pc := 27) 1 dX7_linesOn_27 (by decide) ?_
        refine r_goto (pc := 28) 32 dX7_linesOn_28 (by decide) ?_
        refine r_iadd (pc := 32) dX7_linesOn_32 ?_
        refine r_istore_2 (pc := 33) dX7_linesOn_33 rfl (by decide) ?_
        refine r_inc_3 (pc := 34) dX7_linesOn_34 rfl (by decide) ?_
        refine r_goto (pc := 37) 4 dX7_linesOn_37 (by decide) ?_
        exact (ih (l + 1) (by omega)).L (by rw [onN, cnt, c16, c24, ← nI_succ]; rfl)
theorem ct_X7_linesOn {h : Wd} {k n t : Nat} {c : Mod} (hk : k + 24 < 76) (ht : t < 64) (hs : wm_sights c = nI n) (hn : n ≤ 8) (ho : okSi c n) : Ct mX7_linesOn [.ref k, .int (nI t)] (wm h k c) (some (.int (nI (onN c n t 46)))) (wm h k c) := by
  refine Ct.of (Z := List.replicate 2 .null) (by decide) (Nat.le_of_ble_eq_true rfl) (fun z hz => List.eq_of_mem_replicate hz) ?_
  show WW mX7_linesOn 0 [.ref k, .int (nI t), .null, .null] [] _ _ _
  refine r_iconst (pc := 0) 0 dX7_linesOn_0 (by decide) ?_
  refine r_istore_2 (pc := 1) dX7_linesOn_1 rfl (by decide) ?_
  refine r_iconst (pc := 2) 0 dX7_linesOn_2 (by decide) ?_
  refine r_istore_3 (pc := 3) dX7_linesOn_3 rfl (by decide) ?_
  exact lp_X7_linesOn hk ht hs hn ho 46 0 rfl
