/-! THE REFERENCE: loudest, told, years -/
/-- the place of the greatest of f 0 .. f n, the first of them -/
def ldB (f : Nat → Int32) : Nat → Nat
  | 0 => 0
  | n + 1 => if f (n + 1) ≤ f (ldB f n) then ldB f n else n + 1
theorem ldB_le (f : Nat → Int32) : ∀ n, ldB f n ≤ n
  | 0 => Nat.le_refl 0
  | n + 1 => by
    have := ldB_le f n
    unfold ldB
    split <;> omega
def hrF (c : Mod) (t : Nat) : Int32 := hrd (wm_men c) (snM c) (wm_tent c) (-6) (nI t) 6
theorem lp_X7_loudest {h : Wd} {k : Nat} {c : Mod} {x : Int32} (hk : k + 24 < 76) (hT : okT (wm_tent c)) (ho : ok01 (wm_cold c)) : ∀ r j, j + r = 63 → WW mX7_loudest 17 [.ref k, .int x, .int (nI (ldB (hrF c) j)), .int (nI (j + 1))] [] (wm h k c) (some (.int (if x = 0 then nI (ldB (hrF c) 63) else hrF c (ldB (hrF c) 63)))) (wm h k c) := by
  intro r
  induction r with
  | zero =>
    intro j hj
    obtain rfl : j = 63 := by omega
    refine r_iload_3 (pc := 17) dX7_loudest_17 ?_
    refine r_bipush (pc := 18) 64 dX7_loudest_18 (by decide) ?_
    refine r_icmp_ge (pc := 20) 52 dX7_loudest_20 (by decide) (fun _ => ?_) (fun c20 => absurd (by decide) (c20))
    refine r_iload_1 (pc := 52) dX7_loudest_52 ?_
    refine r_if_ne (pc := 53) 60 dX7_loudest_53 (by decide) (fun c53 => ?_) (fun c53 => ?_)
    · refine r_aload_0 (pc := 60) dX7_loudest_60 ?_
      refine r_iload_2 (pc := 61) dX7_loudest_61 ?_
      refine r_bipush (pc := 62) (-6) dX7_loudest_62 (by decide) ?_
      refine r_cV1_2 (pc := 64) (ct_X7_heardAt hk (by have := ldB_le (hrF c) 63; omega) hT ho) cv_X7_heardAt ⟨Nat.le_of_ble_eq_true rfl, Nat.le_of_ble_eq_true rfl⟩ ml_X7_227 dX7_loudest_64 (by omega) (wm_o _ _ _) rfl rfl (Nat.le_of_ble_eq_true rfl) ?_
      refine r_iret (pc := 67) dX7_loudest_67 rfl (by rw [if_neg c53]; rfl) rfl
    · refine r_iload_2 (pc := 56) dX7_loudest_56 ?_
      refine r_goto (pc := 57) 67 dX7_loudest_57 (by decide) ?_
      refine r_iret (pc := 67) dX7_loudest_67 rfl (by rw [if_pos c53]) rfl
  | succ r ih =>
    intro j hj
    have lb := ldB_le (hrF c) j
    refine r_iload_3 (pc := 17) dX7_loudest_17 ?_
    refine r_bipush (pc := 18) 64 dX7_loudest_18 (by decide) ?_
    refine r_icmp_ge (pc := 20) 52 dX7_loudest_20 (by decide) (fun c20 => absurd c20 (Int32.not_lt.mpr (nI_le (a := j + 1) (b := 63) (by omega) (by decide)))) (fun _ => ?_)
    refine r_aload_0 (pc := 23) dX7_loudest_23 ?_
    refine r_iload_3 (pc := 24) dX7_loudest_24 ?_
    refine r_bipush (pc := 25) (-6) dX7_loudest_25 (by decide) ?_
    refine r_cV1_2 (pc := 27) (ct_X7_heardAt hk (by omega) hT ho) cv_X7_heardAt ⟨Nat.le_of_ble_eq_true rfl, Nat.le_of_ble_eq_true rfl⟩ ml_X7_227 dX7_loudest_27 (by omega) (wm_o _ _ _) rfl rfl (Nat.le_of_ble_eq_true rfl) ?_
    refine r_aload_0 (pc := 30) dX7_loudest_30 ?_
    refine r_iload_2 (pc := 31) dX7_loudest_31 ?_
    refine r_bipush (pc := 32) (-6) dX7_loudest_32 (by decide) ?_
    refine r_cV1_2 (pc := 34) (ct_X7_heardAt hk (by omega) hT ho) cv_X7_heardAt ⟨Nat.le_of_ble_eq_true rfl, Nat.le_of_ble_eq_true rfl⟩ ml_X7_227 dX7_loudest_34 (by omega) (wm_o _ _ _) rfl rfl (Nat.le_of_ble_eq_true rfl) ?_
    refine r_icmp_le (pc := 37) 44 dX7_loudest_37 (by decide) (fun c37 => ?_) (fun c37 => ?_)
    · refine r_iload_2 (pc := 44) dX7_loudest_44 ?_
      refine r_istore_2 (pc := 45) dX7_loudest_45 rfl (by decide) ?_
      refine r_inc_3 (pc := 46) dX7_loudest_46 rfl (by decide) ?_
      refine r_goto (pc := 49) 17 dX7_loudest_49 (by decide) ?_
      exact (ih (j + 1) (by omega)).L (by rw [ldB, if_pos (show hrF c (j + 1) ≤ hrF c (ldB (hrF c) j) from c37)] <;> rfl)
    · refine r_iload_3 (pc := 40) dX7_loudest_40 ?_
      refine r_goto (pc := 41) 45 dX7_loudest_41 (by decide) ?_
      refine r_istore_2 (pc := 45) dX7_loudest_45 rfl (by decide) ?_
      refine r_inc_3 (pc := 46) dX7_loudest_46 rfl (by decide) ?_
      refine r_goto (pc := 49) 17 dX7_loudest_49 (by decide) ?_
      exact (ih (j + 1) (by omega)).L (by rw [ldB, if_neg (show ¬ hrF c (j + 1) ≤ hrF c (ldB (hrF c) j) from c37)] <;> rfl)
theorem ct_X7_loudestB {h : Wd} {k : Nat} {c : Mod} {x : Int32} (hk : k + 24 < 76) (hb : inR x 0 1 = false) : Ct mX7_loudest [.ref k, .int x] (wm h k c) (some (.int (-2))) (wm h k c) := by
  refine Ct.of (Z := List.replicate 2 .null) (by decide) (Nat.le_of_ble_eq_true rfl) (fun z hz => List.eq_of_mem_replicate hz) ?_
  show WW mX7_loudest 0 [.ref k, .int x, .null, .null] [] _ _ _
  refine r_iload_1 (pc := 0) dX7_loudest_0 ?_
  refine r_i2l (pc := 1) dX7_loudest_1 ?_
  refine r_lconst (pc := 2) 0 dX7_loudest_2 (by decide) ?_
  refine r_lconst (pc := 3) 1 dX7_loudest_3 (by decide) ?_
  refine r_cS1_3 (pc := 4) (ct_X7_inI (lo := 0) (hi := 1) (by decide) (by decide)) cs_X7_in ⟨Nat.le_of_ble_eq_true rfl, Nat.le_of_ble_eq_true rfl⟩ ml_X7_86 dX7_loudest_4 rfl (Nat.le_of_ble_eq_true rfl) ?_
  refine r_if_ne (pc := 7) 13 dX7_loudest_7 (by decide) (fun c7 => absurd (by rw [hb]; rfl) c7) (fun _ => ?_)
  refine r_bipush (pc := 10) (-2) dX7_loudest_10 (by decide) ?_
  refine r_iret (pc := 12) dX7_loudest_12 rfl (by first | rfl | simp_all [bI]) rfl
theorem ct_X7_loudest {h : Wd} {k : Nat} {c : Mod} {x : Int32} (hk : k + 24 < 76) (hb : inR x 0 1 = true) (hT : okT (wm_tent c)) (ho : ok01 (wm_cold c)) : Ct mX7_loudest [.ref k, .int x] (wm h k c) (some (.int (if x = 0 then nI (ldB (hrF c) 63) else hrF c (ldB (hrF c) 63)))) (wm h k c) := by
  refine Ct.of (Z := List.replicate 2 .null) (by decide) (Nat.le_of_ble_eq_true rfl) (fun z hz => List.eq_of_mem_replicate hz) ?_
  show WW mX7_loudest 0 [.ref k, .int x, .null, .null] [] _ _ _
  refine r_iload_1 (pc := 0) dX7_loudest_0 ?_
  refine r_i2l (pc := 1) dX7_loudest_1 ?_
  refine r_lconst (pc := 2) 0 dX7_loudest_2 (by decide) ?_
  refine r_lconst (pc := 3) 1 dX7_loudest_3 (by decide) ?_
  refine r_cS1_3 (pc := 4) (ct_X7_inI (lo := 0) (hi := 1) (by decide) (by decide)) cs_X7_in ⟨Nat.le_of_ble_eq_true rfl, Nat.le_of_ble_eq_true rfl⟩ ml_X7_86 dX7_loudest_4 rfl (Nat.le_of_ble_eq_true rfl) ?_
  refine r_if_ne (pc := 7) 13 dX7_loudest_7 (by decide) (fun _ => ?_) (fun c7 => absurd c7 (by rw [hb]; decide))
  refine r_iconst (pc := 13) 0 dX7_loudest_13 (by decide) ?_
  refine r_istore_2 (pc := 14) dX7_loudest_14 rfl (by decide) ?_
  refine r_iconst (pc := 15) 1 dX7_loudest_15 (by decide) ?_
  refine r_istore_3 (pc := 16) dX7_loudest_16 rfl (by decide) ?_
  exact lp_X7_loudest hk hT ho 63 0 rfl
/-- told -/
def toO (c : Mod) (m : Nat) (y : Int32) : Int32 := if y = 0 then wm_tent c m else if y = 1 then snM c m else if y = 2 then wm_salt c m else if y = 3 then wm_cold c m else if y = 4 then wm_whistles c m else if y = 5 then nI (cnt (kb (wm_knows c m)) 64) else -2
theorem ct_X7_toldOfB {h : Wd} {k : Nat} {c : Mod} {x y : Int32} (hk : k + 24 < 76) (hb : hasB (wm_men c) x = false) : Ct mX7_toldOf [.ref k, .int x, .int y] (wm h k c) (some (.int (-2))) (wm h k c) := by
  refine Ct.of (Z := List.replicate 0 .null) (by decide) (Nat.le_of_ble_eq_true rfl) (fun z hz => List.eq_of_mem_replicate hz) ?_
  show WW mX7_toldOf 0 [.ref k, .int x, .int y] [] _ _ _
  refine r_aload_0 (pc := 0) dX7_toldOf_0 ?_
  refine r_iload_1 (pc := 1) dX7_toldOf_1 ?_
  refine r_cV1_1 (pc := 2) (ct_X7_isMan hk) cv_X7_isMan ⟨Nat.le_of_ble_eq_true rfl, Nat.le_of_ble_eq_true rfl⟩ ml_X7_106 dX7_toldOf_2 (by omega) (wm_o _ _ _) rfl rfl (Nat.le_of_ble_eq_true rfl) ?_
  refine r_if_ne (pc := 5) 11 dX7_toldOf_5 (by decide) (fun c5 => absurd (by rw [hb]; rfl) c5) (fun _ => ?_)
  refine r_bipush (pc := 8) (-2) dX7_toldOf_8 (by decide) ?_
  refine r_iret (pc := 10) dX7_toldOf_10 rfl (by first | rfl | simp_all [bI]) rfl
theorem ct_X7_toldOf {h : Wd} {k m : Nat} {c : Mod} {y : Int32} (hk : k + 24 < 76) (hm : m < 6) (hb : hasB (wm_men c) (nI m) = true) (ho : ok01 (wm_cold c)) : Ct mX7_toldOf [.ref k, .int (nI m), .int y] (wm h k c) (some (.int (toO c m y))) (wm h k c) := by
  refine Ct.of (Z := List.replicate 0 .null) (by decide) (Nat.le_of_ble_eq_true rfl) (fun z hz => List.eq_of_mem_replicate hz) ?_
  show WW mX7_toldOf 0 [.ref k, .int (nI m), .int y] [] _ _ _
  refine r_aload_0 (pc := 0) dX7_toldOf_0 ?_
  refine r_iload_1 (pc := 1) dX7_toldOf_1 ?_
  refine r_cV1_1 (pc := 2) (ct_X7_isMan hk) cv_X7_isMan ⟨Nat.le_of_ble_eq_true rfl, Nat.le_of_ble_eq_true rfl⟩ ml_X7_106 dX7_toldOf_2 (by omega) (wm_o _ _ _) rfl rfl (Nat.le_of_ble_eq_true rfl) ?_
  refine r_if_ne (pc := 5) 11 dX7_toldOf_5 (by decide) (fun _ => ?_) (fun c5 => absurd c5 (by rw [hb]; decide))
  refine r_iload_2 (pc := 11) dX7_toldOf_11 ?_
  by_cases e12_0 : y = 0
  · refine r_tabIn (pc := 12) (off := 40) 0 52 dX7_toldOf_12 (by rw [e12_0]; decide) (by decide) (by decide) rfl (by decide) ?_
    refine r_aload_0 (pc := 52) dX7_toldOf_52 ?_
    refine r_wm_get_tent (pc := 53) hk fl_X7_16 dX7_toldOf_53 ?_
    refine r_iload_1 (pc := 56) dX7_toldOf_56 ?_
    refine r_wm_ld_tent (pc := 57) hk (by omega) dX7_toldOf_57 ?_
    refine r_iret (pc := 58) dX7_toldOf_58 rfl (by unfold toO; simp_all) rfl
  by_cases e12_1 : y = 1
  · refine r_tabIn (pc := 12) (off := 47) 1 59 dX7_toldOf_12 (by rw [e12_1]; decide) (by decide) (by decide) rfl (by decide) ?_
    refine r_aload_0 (pc := 59) dX7_toldOf_59 ?_
    refine r_iload_1 (pc := 60) dX7_toldOf_60 ?_
    refine r_cV1_1 (pc := 61) (ct_X7_snore hk hm ho) cv_X7_snore ⟨Nat.le_of_ble_eq_true rfl, Nat.le_of_ble_eq_true rfl⟩ ml_X7_213 dX7_toldOf_61 (by omega) (wm_o _ _ _) rfl rfl (Nat.le_of_ble_eq_true rfl) ?_
    refine r_iret (pc := 64) dX7_toldOf_64 rfl (by unfold toO; simp_all) rfl
  by_cases e12_2 : y = 2
  · refine r_tabIn (pc := 12) (off := 53) 2 65 dX7_toldOf_12 (by rw [e12_2]; decide) (by decide) (by decide) rfl (by decide) ?_
    refine r_aload_0 (pc := 65) dX7_toldOf_65 ?_
    refine r_wm_get_salt (pc := 66) hk fl_X7_29 dX7_toldOf_66 ?_
    refine r_iload_1 (pc := 69) dX7_toldOf_69 ?_
    refine r_wm_ld_salt (pc := 70) hk (by omega) dX7_toldOf_70 ?_
    refine r_iret (pc := 71) dX7_toldOf_71 rfl (by unfold toO; simp_all) rfl
  by_cases e12_3 : y = 3
  · refine r_tabIn (pc := 12) (off := 60) 3 72 dX7_toldOf_12 (by rw [e12_3]; decide) (by decide) (by decide) rfl (by decide) ?_
    refine r_aload_0 (pc := 72) dX7_toldOf_72 ?_
    refine r_wm_get_cold (pc := 73) hk fl_X7_23 dX7_toldOf_73 ?_
    refine r_iload_1 (pc := 76) dX7_toldOf_76 ?_
    refine r_wm_ld_cold (pc := 77) hk (by omega) dX7_toldOf_77 ?_
    refine r_iret (pc := 78) dX7_toldOf_78 rfl (by unfold toO; simp_all) rfl
  by_cases e12_4 : y = 4
  · refine r_tabIn (pc := 12) (off := 67) 4 79 dX7_toldOf_12 (by rw [e12_4]; decide) (by decide) (by decide) rfl (by decide) ?_
    refine r_aload_0 (pc := 79) dX7_toldOf_79 ?_
    refine r_wm_get_whistles (pc := 80) hk fl_X7_26 dX7_toldOf_80 ?_
    refine r_iload_1 (pc := 83) dX7_toldOf_83 ?_
    refine r_wm_ld_whistles (pc := 84) hk (by omega) dX7_toldOf_84 ?_
    refine r_iret (pc := 85) dX7_toldOf_85 rfl (by unfold toO; simp_all) rfl
  by_cases e12_5 : y = 5
  · refine r_tabIn (pc := 12) (off := 74) 5 86 dX7_toldOf_12 (by rw [e12_5]; decide) (by decide) (by decide) rfl (by decide) ?_
    refine r_aload_0 (pc := 86) dX7_toldOf_86 ?_
    refine r_iload_1 (pc := 87) dX7_toldOf_87 ?_
    refine r_cV1_1 (pc := 88) (ct_X7_knownBy hk hm) cv_X7_knownBy ⟨Nat.le_of_ble_eq_true rfl, Nat.le_of_ble_eq_true rfl⟩ ml_X7_111 dX7_toldOf_88 (by omega) (wm_o _ _ _) rfl rfl (Nat.le_of_ble_eq_true rfl) ?_
    refine r_iret (pc := 91) dX7_toldOf_91 rfl (by unfold toO; simp_all) rfl
  refine r_tabOut (pc := 12) 92 dX7_toldOf_12 (by have z0 := lv_neT (a := 0) e12_0 (by decide); have z1 := lv_neT (a := 1) e12_1 (by decide); have z2 := lv_neT (a := 2) e12_2 (by decide); have z3 := lv_neT (a := 3) e12_3 (by decide); have z4 := lv_neT (a := 4) e12_4 (by decide); have z5 := lv_neT (a := 5) e12_5 (by decide); omega) (by decide) ?_
  refine r_bipush (pc := 92) (-2) dX7_toldOf_92 (by decide) ?_
  refine r_iret (pc := 94) dX7_toldOf_94 rfl (by unfold toO; simp_all) rfl
