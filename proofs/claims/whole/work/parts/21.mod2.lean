/-! THE REFERENCE: the text on the pad, acts -/
def clM (N : Mod) (what wy : Int32) : Mod := wm_s_acts (wm_s_way (wm_s_act N (upd (wm_act N) (wm_acts N).toNatClampNeg what)) (upd (wm_way N) (wm_acts N).toNatClampNeg wy)) (wm_acts N + 1)
theorem ct_X7_close {h : Wd} {k a : Nat} {c : Mod} {x y : Int32} (hk : k + 24 < 76) (ea : wm_acts c = nI a) (ha : a < 60) : Ct mX7_close [.ref k, .int x, .int y] (wm h k c) (some (.int 0)) (wm h k (clM c x y)) := by
  have en : (nI a).toNatClampNeg = a := ci ha (by decide)
  refine Ct.of (Z := List.replicate 0 .null) (by decide) (Nat.le_of_ble_eq_true rfl) (fun z hz => List.eq_of_mem_replicate hz) ?_
  show WW mX7_close 0 [.ref k, .int x, .int y] [] _ _ _
  refine r_aload_0 (pc := 0) dX7_close_0 ?_
  refine r_wm_get_act (pc := 1) hk fl_X7_50 dX7_close_1 ?_
  refine r_aload_0 (pc := 4) dX7_close_4 ?_
  refine r_wm_get_acts (pc := 5) hk fl_X7_132 dX7_close_5 ?_
  rw [ea]
  refine r_iload_1 (pc := 8) dX7_close_8 ?_
  refine r_wm_st_act (pc := 9) hk (by omega) dX7_close_9 ?_
  refine r_aload_0 (pc := 10) dX7_close_10 ?_
  refine r_wm_get_way (pc := 11) hk fl_X7_56 dX7_close_11 ?_
  refine r_aload_0 (pc := 14) dX7_close_14 ?_
  refine r_wm_get_acts (pc := 15) hk fl_X7_132 dX7_close_15 ?_
  rw [show ∀ v, wm_acts (wm_s_act c v) = nI a from fun _ => ea]
  refine r_iload_2 (pc := 18) dX7_close_18 ?_
  refine r_wm_st_way (pc := 19) hk (by omega) dX7_close_19 ?_
  refine r_aload_0 (pc := 20) dX7_close_20 ?_
  refine r_dup (pc := 21) dX7_close_21 rfl ?_
  refine r_wm_get_acts (pc := 22) hk fl_X7_132 dX7_close_22 ?_
  refine r_iconst (pc := 25) 1 dX7_close_25 (by decide) ?_
  refine r_iadd (pc := 26) dX7_close_26 ?_
  refine r_wm_put_acts (pc := 27) hk fl_X7_132 dX7_close_27 ?_
  refine r_iconst (pc := 30) 0 dX7_close_30 (by decide) ?_
  refine r_iret (pc := 31) dX7_close_31 rfl (by first | rfl | simp_all [bI]) (by simp only [clM, ea, en]; rw [← ea]; rfl)
def dA (x : Int32) : Int32 := if x = 100 then 1 else if x = 99 then 2 else if x = 42 then 3 else if x = 126 then 4 else 0
def dW (x : Int32) : Int32 := if x = 101 then 1 else if x = 115 then 2 else if x = 119 then 3 else 0
theorem isDd_f {x : Int32} (h1 : ¬ x = 42) (h2 : ¬ x = 99) (h3 : ¬ x = 100) (h4 : ¬ x = 101) (h5 : ¬ x = 110) (h6 : ¬ x = 115) (h7 : ¬ x = 119) (h8 : ¬ x = 126) : isDd x = false := by
  by_cases h9 : x = 46
  · simp [isDd, h9]
  · have : ddB x = -6 := by
      simp [ddB, ddr, dsg, Ne.symm h1, Ne.symm h2, Ne.symm h3, Ne.symm h4, Ne.symm h5, Ne.symm h6, Ne.symm h7, Ne.symm h8, Ne.symm h9]
    simp [isDd, this]
theorem ct_X7_deed {h : Wd} {k a : Nat} {c : Mod} {x : Int32} (hk : k + 24 < 76) (ea : wm_acts c = nI a) (ha : a < 60) : Ct mX7_deed [.ref k, .int x] (wm h k c) (some (.int (if isDd x then 0 else -6))) (wm h k (if isDd x then clM c (dA x) (dW x) else c)) := by
  refine Ct.of (Z := List.replicate 0 .null) (by decide) (Nat.le_of_ble_eq_true rfl) (fun z hz => List.eq_of_mem_replicate hz) ?_
  show WW mX7_deed 0 [.ref k, .int x] [] _ _ _
  refine r_iload_1 (pc := 0) dX7_deed_0 ?_
  by_cases e1_42 : x = 42
  · refine r_look (pc := 1) (off := 117) 118 dX7_deed_1 (by decide) (by rw [e1_42]; decide) (by decide) ?_
    refine r_aload_0 (pc := 118) dX7_deed_118 ?_
    refine r_iconst (pc := 119) 3 dX7_deed_119 (by decide) ?_
    refine r_iconst (pc := 120) 0 dX7_deed_120 (by decide) ?_
    refine r_cV1_2 (pc := 121) (ct_X7_close hk ea ha) cv_X7_close ⟨Nat.le_of_ble_eq_true rfl, Nat.le_of_ble_eq_true rfl⟩ ml_X7_135 dX7_deed_121 (by omega) (wm_o _ _ _) rfl rfl (Nat.le_of_ble_eq_true rfl) ?_
    refine r_iret (pc := 124) dX7_deed_124 rfl (by simp only [*]; rfl) (by simp only [*]; rfl)
  by_cases e1_99 : x = 99
  · refine r_look (pc := 1) (off := 110) 111 dX7_deed_1 (by decide) (by rw [e1_99]; decide) (by decide) ?_
    refine r_aload_0 (pc := 111) dX7_deed_111 ?_
    refine r_iconst (pc := 112) 2 dX7_deed_112 (by decide) ?_
    refine r_iconst (pc := 113) 0 dX7_deed_113 (by decide) ?_
    refine r_cV1_2 (pc := 114) (ct_X7_close hk ea ha) cv_X7_close ⟨Nat.le_of_ble_eq_true rfl, Nat.le_of_ble_eq_true rfl⟩ ml_X7_135 dX7_deed_114 (by omega) (wm_o _ _ _) rfl rfl (Nat.le_of_ble_eq_true rfl) ?_
    refine r_iret (pc := 117) dX7_deed_117 rfl (by simp only [*]; rfl) (by simp only [*]; rfl)
  by_cases e1_100 : x = 100
  · refine r_look (pc := 1) (off := 103) 104 dX7_deed_1 (by decide) (by rw [e1_100]; decide) (by decide) ?_
    refine r_aload_0 (pc := 104) dX7_deed_104 ?_
    refine r_iconst (pc := 105) 1 dX7_deed_105 (by decide) ?_
    refine r_iconst (pc := 106) 0 dX7_deed_106 (by decide) ?_
    refine r_cV1_2 (pc := 107) (ct_X7_close hk ea ha) cv_X7_close ⟨Nat.le_of_ble_eq_true rfl, Nat.le_of_ble_eq_true rfl⟩ ml_X7_135 dX7_deed_107 (by omega) (wm_o _ _ _) rfl rfl (Nat.le_of_ble_eq_true rfl) ?_
    refine r_iret (pc := 110) dX7_deed_110 rfl (by simp only [*]; rfl) (by simp only [*]; rfl)
  by_cases e1_101 : x = 101
  · refine r_look (pc := 1) (off := 82) 83 dX7_deed_1 (by decide) (by rw [e1_101]; decide) (by decide) ?_
    refine r_aload_0 (pc := 83) dX7_deed_83 ?_
    refine r_iconst (pc := 84) 0 dX7_deed_84 (by decide) ?_
    refine r_iconst (pc := 85) 1 dX7_deed_85 (by decide) ?_
    refine r_cV1_2 (pc := 86) (ct_X7_close hk ea ha) cv_X7_close ⟨Nat.le_of_ble_eq_true rfl, Nat.le_of_ble_eq_true rfl⟩ ml_X7_135 dX7_deed_86 (by omega) (wm_o _ _ _) rfl rfl (Nat.le_of_ble_eq_true rfl) ?_
    refine r_iret (pc := 89) dX7_deed_89 rfl (by simp only [*]; rfl) (by simp only [*]; rfl)
  by_cases e1_110 : x = 110
  · refine r_look (pc := 1) (off := 75) 76 dX7_deed_1 (by decide) (by rw [e1_110]; decide) (by decide) ?_
    refine r_aload_0 (pc := 76) dX7_deed_76 ?_
    refine r_iconst (pc := 77) 0 dX7_deed_77 (by decide) ?_
    refine r_iconst (pc := 78) 0 dX7_deed_78 (by decide) ?_
    refine r_cV1_2 (pc := 79) (ct_X7_close hk ea ha) cv_X7_close ⟨Nat.le_of_ble_eq_true rfl, Nat.le_of_ble_eq_true rfl⟩ ml_X7_135 dX7_deed_79 (by omega) (wm_o _ _ _) rfl rfl (Nat.le_of_ble_eq_true rfl) ?_
    refine r_iret (pc := 82) dX7_deed_82 rfl (by simp only [*]; rfl) (by simp only [*]; rfl)
  by_cases e1_115 : x = 115
  · refine r_look (pc := 1) (off := 89) 90 dX7_deed_1 (by decide) (by rw [e1_115]; decide) (by decide) ?_
    refine r_aload_0 (pc := 90) dX7_deed_90 ?_
    refine r_iconst (pc := 91) 0 dX7_deed_91 (by decide) ?_
    refine r_iconst (pc := 92) 2 dX7_deed_92 (by decide) ?_
    refine r_cV1_2 (pc := 93) (ct_X7_close hk ea ha) cv_X7_close ⟨Nat.le_of_ble_eq_true rfl, Nat.le_of_ble_eq_true rfl⟩ ml_X7_135 dX7_deed_93 (by omega) (wm_o _ _ _) rfl rfl (Nat.le_of_ble_eq_true rfl) ?_
    refine r_iret (pc := 96) dX7_deed_96 rfl (by simp only [*]; rfl) (by simp only [*]; rfl)
  by_cases e1_119 : x = 119
  · refine r_look (pc := 1) (off := 96) 97 dX7_deed_1 (by decide) (by rw [e1_119]; decide) (by decide) ?_
    refine r_aload_0 (pc := 97) dX7_deed_97 ?_
    refine r_iconst (pc := 98) 0 dX7_deed_98 (by decide) ?_
    refine r_iconst (pc := 99) 3 dX7_deed_99 (by decide) ?_
    refine r_cV1_2 (pc := 100) (ct_X7_close hk ea ha) cv_X7_close ⟨Nat.le_of_ble_eq_true rfl, Nat.le_of_ble_eq_true rfl⟩ ml_X7_135 dX7_deed_100 (by omega) (wm_o _ _ _) rfl rfl (Nat.le_of_ble_eq_true rfl) ?_
    refine r_iret (pc := 103) dX7_deed_103 rfl (by simp only [*]; rfl) (by simp only [*]; rfl)
  by_cases e1_126 : x = 126
  · refine r_look (pc := 1) (off := 124) 125 dX7_deed_1 (by decide) (by rw [e1_126]; decide) (by decide) ?_
    refine r_aload_0 (pc := 125) dX7_deed_125 ?_
    refine r_iconst (pc := 126) 4 dX7_deed_126 (by decide) ?_
    refine r_iconst (pc := 127) 0 dX7_deed_127 (by decide) ?_
    refine r_cV1_2 (pc := 128) (ct_X7_close hk ea ha) cv_X7_close ⟨Nat.le_of_ble_eq_true rfl, Nat.le_of_ble_eq_true rfl⟩ ml_X7_135 dX7_deed_128 (by omega) (wm_o _ _ _) rfl rfl (Nat.le_of_ble_eq_true rfl) ?_
    refine r_iret (pc := 131) dX7_deed_131 rfl (by simp only [*]; rfl) (by simp only [*]; rfl)
  refine r_look (pc := 1) (off := 131) 132 dX7_deed_1 (by decide) (by show Op.lookupswitch.offset [(42, 117), (99, 110), (100, 103), (101, 82), (110, 75), (115, 89), (119, 96), (126, 124)] 131 _ = _; rw [lv_osw e1_42 (by decide), lv_osw e1_99 (by decide), lv_osw e1_100 (by decide), lv_osw e1_101 (by decide), lv_osw e1_110 (by decide), lv_osw e1_115 (by decide), lv_osw e1_119 (by decide), lv_osw e1_126 (by decide)]; rfl) (by decide) ?_
  refine r_bipush (pc := 132) (-6) dX7_deed_132 (by decide) ?_
  refine r_iret (pc := 134) dX7_deed_134 rfl (by rw [isDd_f e1_42 e1_99 e1_100 e1_101 e1_110 e1_115 e1_119 e1_126]; rfl) (by rw [isDd_f e1_42 e1_99 e1_100 e1_101 e1_110 e1_115 e1_119 e1_126]; rfl)
def isL (x : Int32) : Bool := inR x 65 70
/-- the state behind a sign that is read, a man being named or not -/
def rd1 (c : Mod) (b : Bool) (x : Int32) : Mod :=
  if b then (if isDd x then clM c (dA x) (dW x) else c)
  else if isL x then wm_s_who c (upd (wm_who c) (wm_acts c).toNatClampNeg (x - 65))
  else if x = 46 then clM (wm_s_who c (upd (wm_who c) (wm_acts c).toNatClampNeg 0)) 5 0
  else wm_s_who c (upd (wm_who c) (wm_acts c).toNatClampNeg 0)
def rdV (b : Bool) (x : Int32) : Int32 := if b then (if isDd x then 0 else -6) else if isL x then 1 else if x = 46 then 0 else -6
theorem ct_X7_readOn {h : Wd} {k a : Nat} {c : Mod} {x : Int32} {b : Bool} (hk : k + 24 < 76) (ea : wm_acts c = nI a) (ha : a < 60) : Ct mX7_readOn [.ref k, .int (bI b), .int x] (wm h k c) (some (.int (rdV b x))) (wm h k (rd1 c b x)) := by
  have en : (nI a).toNatClampNeg = a := ci ha (by decide)
  cases b with
  | true =>
    refine Ct.of (Z := List.replicate 1 .null) (by decide) (Nat.le_of_ble_eq_true rfl) (fun z hz => List.eq_of_mem_replicate hz) ?_
    show WW mX7_readOn 0 [.ref k, .int (bI true), .int x, .null] [] _ _ _
    refine r_iload_1 (pc := 0) dX7_readOn_0 ?_
    refine r_iconst (pc := 1) 1 dX7_readOn_1 (by decide) ?_
    refine r_icmp_ne (pc := 2) 11 dX7_readOn_2 (by decide) (fun c2 => absurd (rfl) c2) (fun _ => ?_)
    refine r_aload_0 (pc := 5) dX7_readOn_5 ?_
    refine r_iload_2 (pc := 6) dX7_readOn_6 ?_
    refine r_cV1_1 (pc := 7) (ct_X7_deed hk ea ha) cv_X7_deed ⟨Nat.le_of_ble_eq_true rfl, Nat.le_of_ble_eq_true rfl⟩ ml_X7_139 dX7_readOn_7 (by omega) (wm_o _ _ _) rfl rfl (Nat.le_of_ble_eq_true rfl) ?_
    refine r_iret (pc := 10) dX7_readOn_10 rfl (by first | rfl | simp_all [bI]) rfl
  | false =>
    refine Ct.of (Z := List.replicate 1 .null) (by decide) (Nat.le_of_ble_eq_true rfl) (fun z hz => List.eq_of_mem_replicate hz) ?_
    show WW mX7_readOn 0 [.ref k, .int (bI false), .int x, .null] [] _ _ _
    refine r_iload_1 (pc := 0) dX7_readOn_0 ?_
    refine r_iconst (pc := 1) 1 dX7_readOn_1 (by decide) ?_
    refine r_icmp_ne (pc := 2) 11 dX7_readOn_2 (by decide) (fun _ => ?_) (fun c2 => absurd c2 (by decide))
    refine r_iload_2 (pc := 11) dX7_readOn_11 ?_
    refine r_i2l (pc := 12) dX7_readOn_12 ?_
    refine r_ldc2 (pc := 13) dX7_readOn_13 kl_X7_142 ?_
    refine r_ldc2 (pc := 16) dX7_readOn_16 kl_X7_144 ?_
    refine r_cS1_3 (pc := 19) (ct_X7_inI (lo := 65) (hi := 70) (by decide) (by decide)) cs_X7_in ⟨Nat.le_of_ble_eq_true rfl, Nat.le_of_ble_eq_true rfl⟩ ml_X7_86 dX7_readOn_19 rfl (Nat.le_of_ble_eq_true rfl) ?_
    refine r_istore_3 (pc := 22) dX7_readOn_22 rfl (by decide) ?_
    refine r_aload_0 (pc := 23) dX7_readOn_23 ?_
    refine r_wm_get_who (pc := 24) hk fl_X7_53 dX7_readOn_24 ?_
    refine r_aload_0 (pc := 27) dX7_readOn_27 ?_
    refine r_wm_get_acts (pc := 28) hk fl_X7_132 dX7_readOn_28 ?_
    rw [ea]
    refine r_iload_3 (pc := 31) dX7_readOn_31 ?_
    refine r_if_eq (pc := 32) 42 dX7_readOn_32 (by decide) (fun c32 => ?_) (fun c32 => ?_)
    · rw [bI_0] at c32
      refine r_iconst (pc := 42) 0 dX7_readOn_42 (by decide) ?_
      refine r_wm_st_who (pc := 43) hk (by omega) dX7_readOn_43 ?_
      refine r_iload_3 (pc := 44) dX7_readOn_44 ?_
      refine r_if_eq (pc := 45) 52 dX7_readOn_45 (by decide) (fun _ => ?_) (fun c45 => absurd (by rw [c32]; rfl) (c45))
      refine r_iload_2 (pc := 52) dX7_readOn_52 ?_
      refine r_bipush (pc := 53) 46 dX7_readOn_53 (by decide) ?_
      refine r_icmp_ne (pc := 55) 67 dX7_readOn_55 (by decide) (fun c55 => ?_) (fun c55 => ?_)
      · refine r_bipush (pc := 67) (-6) dX7_readOn_67 (by decide) ?_
        refine r_iret (pc := 69) dX7_readOn_69 rfl (by simp only [rdV, isL, c32, if_neg c55]; rfl) (by simp only [rd1, isL, c32, ea, en, if_neg c55]; rfl)
      · refine r_aload_0 (pc := 58) dX7_readOn_58 ?_
        refine r_iconst (pc := 59) 5 dX7_readOn_59 (by decide) ?_
        refine r_iconst (pc := 60) 0 dX7_readOn_60 (by decide) ?_
        refine r_cV1_2 (pc := 61) (ct_X7_close (a := a) hk ea ha) cv_X7_close ⟨Nat.le_of_ble_eq_true rfl, Nat.le_of_ble_eq_true rfl⟩ ml_X7_135 dX7_readOn_61 (by omega) (wm_o _ _ _) rfl rfl (Nat.le_of_ble_eq_true rfl) ?_
        refine r_goto (pc := 64) 69 dX7_readOn_64 (by decide) ?_
        refine r_iret (pc := 69) dX7_readOn_69 rfl (by simp only [rdV, isL, c32, if_pos c55]; rfl) (by simp only [rd1, isL, c32, ea, en, if_pos c55]; rfl)
    · rw [bI_n0] at c32
      refine r_iload_2 (pc := 35) dX7_readOn_35 ?_
      refine r_bipush (pc := 36) 65 dX7_readOn_36 (by decide) ?_
      refine r_isub (pc := 38) dX7_readOn_38 ?_
      refine r_goto (pc := 39) 43 dX7_readOn_39 (by decide) ?_
      refine r_wm_st_who (pc := 43) hk (by omega) dX7_readOn_43 ?_
      refine r_iload_3 (pc := 44) dX7_readOn_44 ?_
      refine r_if_eq (pc := 45) 52 dX7_readOn_45 (by decide) (fun c45 => absurd c45 (by rw [c32]; decide)) (fun _ => ?_)
      refine r_iconst (pc := 48) 1 dX7_readOn_48 (by decide) ?_
      refine r_goto (pc := 49) 69 dX7_readOn_49 (by decide) ?_
      refine r_iret (pc := 69) dX7_readOn_69 rfl (by simp only [rdV, isL, c32]; rfl) (by simp only [rd1, isL, c32, ea, en]; rfl)
theorem fb_rng1 (x : Int32) : -2147483648 ≤ x.toInt ∧ x.toInt < 2147483648 := ⟨Int32.le_toInt x, Int32.toInt_lt x⟩
theorem isL_M (x : Int32) : isL x = isM (x - 65) := by
  obtain ⟨n, hn, rfl⟩ := wb_of32 x
  unfold isL inR isM
  refine decide_eq_decide.mpr ?_
  rw [Int32.le_iff_toInt_le, Int32.le_iff_toInt_le, Int32.le_iff_toInt_le, Int32.lt_iff_toInt_lt, Int32.toInt_sub]
  have e1 : (65 : Int32).toInt = 65 := by decide
  have e2 : (70 : Int32).toInt = 70 := by decide
  have e3 : (6 : Int32).toInt = 6 := by decide
  have e4 : (0 : Int32).toInt = 0 := by decide
  have r := fb_rng1 (nI n)
  rw [e1, e2, e3, e4, Int.bmod_def]
  omega
/-- the state behind the first j signs -/
def rdM (p : Nat → Int32) : Nat → Mod → Mod
  | 0, c => wm_s_acts c 0
  | j + 1, c => rd1 (rdM p j c) (nmd p j) (p j)
theorem rd1_acts (c : Mod) (b : Bool) (x : Int32) : wm_acts (rd1 c b x) = wm_acts c ∨ wm_acts (rd1 c b x) = wm_acts c + 1 := by
  unfold rd1
  split
  · split
    · exact Or.inr rfl
    · exact Or.inl rfl
  · split
    · exact Or.inl rfl
    · split
      · exact Or.inr rfl
      · exact Or.inl rfl
theorem rdM_acts (p : Nat → Int32) (c : Mod) : ∀ j, ∃ a, a ≤ j ∧ wm_acts (rdM p j c) = nI a
  | 0 => ⟨0, Nat.le_refl _, rfl⟩
  | j + 1 => by
    obtain ⟨a, ha, ea⟩ := rdM_acts p c j
    rcases rd1_acts (rdM p j c) (nmd p j) (p j) with e | e
    · exact ⟨a, by omega, by rw [rdM, e, ea]⟩
    · exact ⟨a + 1, by omega, by rw [rdM, e, ea, nI_succ]⟩
theorem rd1_pad (c : Mod) (b : Bool) (x : Int32) : wm_pad (rd1 c b x) = wm_pad c ∧ wm_padMany (rd1 c b x) = wm_padMany c := by
  unfold rd1
  split
  · split <;> exact ⟨rfl, rfl⟩
  · split
    · exact ⟨rfl, rfl⟩
    · split <;> exact ⟨rfl, rfl⟩
theorem rdM_pad (p : Nat → Int32) (c : Mod) : ∀ j, wm_pad (rdM p j c) = wm_pad c ∧ wm_padMany (rdM p j c) = wm_padMany c
  | 0 => ⟨rfl, rfl⟩
  | j + 1 => by
    obtain ⟨a, b⟩ := rdM_pad p c j
    obtain ⟨d, e⟩ := rd1_pad (rdM p j c) (nmd p j) (p j)
    exact ⟨by rw [rdM, d, a], by rw [rdM, e, b]⟩
/-- how many signs are read, r being left -/
def rdN (p : Nat → Int32) (n : Nat) : Nat → Nat
  | 0 => n
  | r + 1 => if fitS (nmd p (n - (r + 1))) (p (n - (r + 1))) then rdN p n r else n - (r + 1) + 1
theorem rdV_fit (b : Bool) (x : Int32) (h : fitS b x = true) : rdV b x = bI (!b && !decide (x = 46)) := by
  unfold fitS at h
  unfold rdV
  rw [isL_M]
  cases b with
  | true =>
    simp at h
    simp [h, bI]
  | false =>
    simp at h
    by_cases e : x = 46
    · subst e
      rw [show isM (46 - 65) = false by decide]
      simp [bI]
    · rcases h with h | h
      · exact absurd h e
      · simp [h, e, bI]
theorem rdV_bad (b : Bool) (x : Int32) (h : fitS b x = false) : rdV b x = -6 := by
  unfold fitS at h
  unfold rdV
  rw [isL_M]
  cases b with
  | true => simp at h; simp [h]
  | false => simp at h; simp [h]
theorem lp_X7_fault {h h' : Wd} {k n : Nat} {c : Mod} (hk : k + 24 < 76) (hc : wm_padMany c = nI n) (hn : n ≤ 60) : ∀ r j, j + r = n → h' = wm h k (rdM (wm_pad c) (rdN (wm_pad c) n r) c) → WW mX7_fault 9 [.ref k, .int (bI (nmd (wm_pad c) j)), .int (nI j)] [] (wm h k (rdM (wm_pad c) j c)) (some (.int (ffd (wm_pad c) n r))) h' := by
  intro r
  induction r with
  | zero =>
    intro j hj e
    obtain rfl : j = n := by omega
    have e2 := (rdM_pad (wm_pad c) c j).2.trans hc
    refine r_iload_2 (pc := 9) dX7_fault_9 ?_
    refine r_aload_0 (pc := 10) dX7_fault_10 ?_
    refine r_wm_get_padMany (pc := 11) hk fl_X7_129 dX7_fault_11 ?_
    rw [e2]
    refine r_icmp_ge (pc := 14) 41 dX7_fault_14 (by decide) (fun _ => ?_) (fun c14 => absurd (nI_le (by omega) (by omega)) (c14))
    refine r_iload_1 (pc := 41) dX7_fault_41 ?_
    refine r_if_ne (pc := 42) 50 dX7_fault_42 (by decide) (fun c42 => ?_) (fun c42 => ?_)
    · refine r_aload_0 (pc := 50) dX7_fault_50 ?_
      refine r_wm_get_padMany (pc := 51) hk fl_X7_129 dX7_fault_51 ?_
      refine r_iret (pc := 54) dX7_fault_54 rfl (by rw [bI_n0] at c42; rw [ffd, c42, e2]; rfl) e.symm
    · refine r_bipush (pc := 45) (-6) dX7_fault_45 (by decide) ?_
      refine r_goto (pc := 47) 54 dX7_fault_47 (by decide) ?_
      refine r_iret (pc := 54) dX7_fault_54 rfl (by rw [bI_0] at c42; rw [ffd, c42]; rfl) e.symm
  | succ r ih =>
    intro j hj e
    have ej : n - (r + 1) = j := by omega
    have e2 := (rdM_pad (wm_pad c) c j).2.trans hc
    have e3 := (rdM_pad (wm_pad c) c j).1
    obtain ⟨a, ha, ea⟩ := rdM_acts (wm_pad c) c j
    by_cases hf : fitS (nmd (wm_pad c) j) (wm_pad c j) = true
    · have eV := rdV_fit _ _ hf
      refine r_iload_2 (pc := 9) dX7_fault_9 ?_
      refine r_aload_0 (pc := 10) dX7_fault_10 ?_
      refine r_wm_get_padMany (pc := 11) hk fl_X7_129 dX7_fault_11 ?_
      rw [e2]
      refine r_icmp_ge (pc := 14) 41 dX7_fault_14 (by decide) (fun c14 => absurd c14 (nI_ge (by omega) (by omega))) (fun _ => ?_)
      refine r_aload_0 (pc := 17) dX7_fault_17 ?_
      refine r_iload_1 (pc := 18) dX7_fault_18 ?_
      refine r_aload_0 (pc := 19) dX7_fault_19 ?_
      refine r_wm_get_pad (pc := 20) hk fl_X7_47 dX7_fault_20 ?_
      refine r_iload_2 (pc := 23) dX7_fault_23 ?_
      refine r_wm_ld_pad (pc := 24) hk (by omega) dX7_fault_24 ?_
      rw [e3]
      refine r_cV1_2 (pc := 25) (ct_X7_readOn hk ea (by omega)) cv_X7_readOn ⟨Nat.le_of_ble_eq_true rfl, Nat.le_of_ble_eq_true rfl⟩ ml_X7_146 dX7_fault_25 (by omega) (wm_o _ _ _) rfl rfl (Nat.le_of_ble_eq_true rfl) ?_
      rw [eV]
      refine r_istore_1 (pc := 28) dX7_fault_28 rfl (by decide) ?_
      refine r_iload_1 (pc := 29) dX7_fault_29 ?_
      refine r_if_ge (pc := 30) 35 dX7_fault_30 (by decide) (fun _ => ?_) (fun c30 => absurd (by cases (!nmd (wm_pad c) j && !decide (wm_pad c j = 46)) <;> decide) (c30))
      refine r_inc_2 (pc := 35) dX7_fault_35 rfl (by decide) ?_
      refine r_goto (pc := 38) 9 dX7_fault_38 (by decide) ?_
      exact (ih (j + 1) (by omega) (by rw [e, rdN, ej, if_pos hf])).r (by rw [ffd, ej, if_pos hf])
    · have hf2 : fitS (nmd (wm_pad c) j) (wm_pad c j) = false := by simpa using hf
      have eV := rdV_bad _ _ hf2
      refine r_iload_2 (pc := 9) dX7_fault_9 ?_
      refine r_aload_0 (pc := 10) dX7_fault_10 ?_
      refine r_wm_get_padMany (pc := 11) hk fl_X7_129 dX7_fault_11 ?_
      rw [e2]
      refine r_icmp_ge (pc := 14) 41 dX7_fault_14 (by decide) (fun c14 => absurd c14 (nI_ge (by omega) (by omega))) (fun _ => ?_)
      refine r_aload_0 (pc := 17) dX7_fault_17 ?_
      refine r_iload_1 (pc := 18) dX7_fault_18 ?_
      refine r_aload_0 (pc := 19) dX7_fault_19 ?_
      refine r_wm_get_pad (pc := 20) hk fl_X7_47 dX7_fault_20 ?_
      refine r_iload_2 (pc := 23) dX7_fault_23 ?_
      refine r_wm_ld_pad (pc := 24) hk (by omega) dX7_fault_24 ?_
      rw [e3]
      refine r_cV1_2 (pc := 25) (ct_X7_readOn hk ea (by omega)) cv_X7_readOn ⟨Nat.le_of_ble_eq_true rfl, Nat.le_of_ble_eq_true rfl⟩ ml_X7_146 dX7_fault_25 (by omega) (wm_o _ _ _) rfl rfl (Nat.le_of_ble_eq_true rfl) ?_
      rw [eV]
      refine r_istore_1 (pc := 28) dX7_fault_28 rfl (by decide) ?_
      refine r_iload_1 (pc := 29) dX7_fault_29 ?_
      refine r_if_ge (pc := 30) 35 dX7_fault_30 (by decide) (fun c30 => absurd c30 (by decide)) (fun _ => ?_)
      refine r_iload_2 (pc := 33) dX7_fault_33 ?_
      refine r_iret (pc := 34) dX7_fault_34 rfl (by rw [ffd, ej, if_neg hf]) (by rw [e, rdN, ej, if_neg hf]; rfl)
def rdA (c : Mod) (n : Nat) : Mod := rdM (wm_pad c) (rdN (wm_pad c) n n) c
theorem ct_X7_fault {h : Wd} {k n : Nat} {c : Mod} (hk : k + 24 < 76) (hc : wm_padMany c = nI n) (hn : n ≤ 60) : Ct mX7_fault [.ref k] (wm h k c) (some (.int (flt (wm_pad c) n))) (wm h k (rdA c n)) := by
  refine Ct.of (Z := List.replicate 2 .null) (by decide) (Nat.le_of_ble_eq_true rfl) (fun z hz => List.eq_of_mem_replicate hz) ?_
  show WW mX7_fault 0 [.ref k, .null, .null] [] _ _ _
  refine r_aload_0 (pc := 0) dX7_fault_0 ?_
  refine r_iconst (pc := 1) 0 dX7_fault_1 (by decide) ?_
  refine r_wm_put_acts (pc := 2) hk fl_X7_132 dX7_fault_2 ?_
  refine r_iconst (pc := 5) 0 dX7_fault_5 (by decide) ?_
  refine r_istore_1 (pc := 6) dX7_fault_6 rfl (by decide) ?_
  refine r_iconst (pc := 7) 0 dX7_fault_7 (by decide) ?_
  refine r_istore_2 (pc := 8) dX7_fault_8 rfl (by decide) ?_
  exact lp_X7_fault hk hc hn n 0 (by omega) rfl
