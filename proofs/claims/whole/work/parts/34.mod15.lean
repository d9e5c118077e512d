/-! THE REFERENCE: told, years -/
theorem nI_lI {a b : Nat} (ha : a < 2 ^ 31) (hb : b < 2 ^ 31) : nI a ≤ nI b ↔ a ≤ b := by
  constructor
  · intro z
    refine Decidable.byContradiction (fun n => ?_)
    have q := (nI_ltI (a := b) (b := a) hb ha).mpr (by omega)
    exact absurd q (Int32.not_lt.mpr z)
  · intro z
    refine Decidable.byContradiction (fun n => ?_)
    have q := (nI_ltI (a := b) (b := a) hb ha).mp (Int32.not_le.mp n)
    omega
theorem inR_t {x : Int32} {lo hi : Nat} (hl : lo < 2 ^ 31) (hh : hi < 2 ^ 31) (h : inR x (nI lo) (nI hi) = true) : ∃ n, lo ≤ n ∧ n ≤ hi ∧ x = nI n := by
  have h2 : nI lo ≤ x ∧ x ≤ nI hi := of_decide_eq_true h
  have z0 : (0 : Int32) ≤ x := Int32.le_trans (show nI 0 ≤ nI lo from (nI_lI (by decide) hl).mpr (by omega)) h2.1
  have e : x = nI x.toNatClampNeg := by
    have t0 := Int32.le_iff_toInt_le.mp z0
    refine Int32.toInt_inj.mp ?_
    have e0 : (0 : Int32).toInt = 0 := by decide
    have := Int32.toInt_lt x
    rw [nI_toInt (by unfold Int32.toNatClampNeg; omega)]
    unfold Int32.toNatClampNeg
    omega
  have hx : x.toNatClampNeg < 2 ^ 31 := by
    have := Int32.toInt_lt x
    unfold Int32.toNatClampNeg
    omega
  rw [e] at h2
  exact ⟨x.toNatClampNeg, (nI_lI hl hx).mp h2.1, (nI_lI hx hh).mp h2.2, e⟩
theorem ct_X7_toldKO {h : Wd} {k n : Nat} {c : Mod} (hk : k + 24 < 76) (h1 : 200 ≤ n) (h2 : n ≤ 1399) (hb : hasB (wm_men c) (nI (n / 200 - 1)) = false ∨ isC (nI (n % 200)) = false) : Ct mX7_told [.ref k, .int (nI n)] (wm h k c) (some (.int (-2))) (wm h k c) := by
  have hr : inR (nI n) 200 1399 = true := decide_eq_true ⟨(nI_lI (a := 200) (by decide) (by omega)).mpr h1, (nI_lI (b := 1399) (by omega) (by decide)).mpr h2⟩
  have e1 : nI n / 200 - 1 = nI (n / 200 - 1) := by
    rw [show nI n / 200 = nI (n / 200) from pk_div (d := 200) (by omega) (by decide) (by decide), show n / 200 = n / 200 - 1 + 1 by omega, nI_pred]
    rfl
  have e2 : nI n - nI n / 200 * 200 = nI (n % 200) := pk_rem (d := 200) (by omega) (by decide) (by decide)
  refine Ct.of (Z := List.replicate 1 .null) (by decide) (Nat.le_of_ble_eq_true rfl) (fun z hz => List.eq_of_mem_replicate hz) ?_
  show WW mX7_told 0 [.ref k, .int (nI n), .null] [] _ _ _
  refine r_iload_1 (pc := 0) dX7_told_0 ?_
  refine r_i2l (pc := 1) dX7_told_1 ?_
  refine r_ldc2 (pc := 2) dX7_told_2 kl_X7_328 ?_
  refine r_ldc2 (pc := 5) dX7_told_5 kl_X7_330 ?_
  refine r_cS1_3 (pc := 8) (ct_X7_inI (lo := 200) (hi := 1399) (by decide) (by decide)) cs_X7_in ⟨Nat.le_of_ble_eq_true rfl, Nat.le_of_ble_eq_true rfl⟩ ml_X7_86 dX7_told_8 rfl (Nat.le_of_ble_eq_true rfl) ?_
  refine r_if_eq (pc := 11) 65 dX7_told_11 (by decide) (fun c11 => absurd c11 (by rw [hr]; decide)) (fun _ => ?_)
  refine r_iload_1 (pc := 14) dX7_told_14 ?_
  refine r_sipush (pc := 15) 200 dX7_told_15 (by decide) ?_
  refine r_idiv (pc := 18) dX7_told_18 (by decide) ?_
  refine r_iconst (pc := 19) 1 dX7_told_19 (by decide) ?_
  refine r_isub (pc := 20) dX7_told_20 ?_
  rw [e1]
  refine r_istore_2 (pc := 21) dX7_told_21 rfl (by decide) ?_
  refine r_aload_0 (pc := 22) dX7_told_22 ?_
  refine r_iload_2 (pc := 23) dX7_told_23 ?_
  refine r_cV1_1 (pc := 24) (ct_X7_isMan hk) cv_X7_isMan ⟨Nat.le_of_ble_eq_true rfl, Nat.le_of_ble_eq_true rfl⟩ ml_X7_106 dX7_told_24 (by omega) (wm_o _ _ _) rfl rfl (Nat.le_of_ble_eq_true rfl) ?_
  refine r_if_eq (pc := 27) 62 dX7_told_27 (by decide) (fun c27 => ?_) (fun c27 => ?_)
  · refine r_bipush (pc := 62) (-2) dX7_told_62 (by decide) ?_
    refine r_iret (pc := 64) dX7_told_64 rfl (by first | rfl | simp_all [bI]) rfl
  · refine r_iload_1 (pc := 30) dX7_told_30 ?_
    refine r_sipush (pc := 31) 200 dX7_told_31 (by decide) ?_
    refine r_irem (pc := 34) dX7_told_34 (by decide) ?_
    rw [e2]
    refine r_cS1_1 (pc := 35) (ct_X7_isCell) cs_X7_isCell ⟨Nat.le_of_ble_eq_true rfl, Nat.le_of_ble_eq_true rfl⟩ ml_X7_96 dX7_told_35 rfl (Nat.le_of_ble_eq_true rfl) ?_
    refine r_if_eq (pc := 38) 62 dX7_told_38 (by decide) (fun c38 => ?_) (fun c38 => ?_)
    · refine r_bipush (pc := 62) (-2) dX7_told_62 (by decide) ?_
      refine r_iret (pc := 64) dX7_told_64 rfl (by first | rfl | simp_all [bI]) rfl
    · exact absurd hb (by rw [bI_n0] at c27 c38; rw [c27, c38]; decide)
theorem ct_X7_toldK {h : Wd} {k n : Nat} {c : Mod} (hk : k + 24 < 76) (h1 : 200 ≤ n) (h2 : n ≤ 1399) (hb : hasB (wm_men c) (nI (n / 200 - 1)) = true) (hc : n % 200 < 64) : Ct mX7_told [.ref k, .int (nI n)] (wm h k c) (some (.int (bI (kb (wm_knows c (n / 200 - 1)) (n % 200))))) (wm h k c) := by
  have hr : inR (nI n) 200 1399 = true := decide_eq_true ⟨(nI_lI (a := 200) (by decide) (by omega)).mpr h1, (nI_lI (b := 1399) (by omega) (by decide)).mpr h2⟩
  have e1 : nI n / 200 - 1 = nI (n / 200 - 1) := by
    rw [show nI n / 200 = nI (n / 200) from pk_div (d := 200) (by omega) (by decide) (by decide), show n / 200 = n / 200 - 1 + 1 by omega, nI_pred]
    rfl
  have e2 : nI n - nI n / 200 * 200 = nI (n % 200) := pk_rem (d := 200) (by omega) (by decide) (by decide)
  refine Ct.of (Z := List.replicate 1 .null) (by decide) (Nat.le_of_ble_eq_true rfl) (fun z hz => List.eq_of_mem_replicate hz) ?_
  show WW mX7_told 0 [.ref k, .int (nI n), .null] [] _ _ _
  refine r_iload_1 (pc := 0) dX7_told_0 ?_
  refine r_i2l (pc := 1) dX7_told_1 ?_
  refine r_ldc2 (pc := 2) dX7_told_2 kl_X7_328 ?_
  refine r_ldc2 (pc := 5) dX7_told_5 kl_X7_330 ?_
  refine r_cS1_3 (pc := 8) (ct_X7_inI (lo := 200) (hi := 1399) (by decide) (by decide)) cs_X7_in ⟨Nat.le_of_ble_eq_true rfl, Nat.le_of_ble_eq_true rfl⟩ ml_X7_86 dX7_told_8 rfl (Nat.le_of_ble_eq_true rfl) ?_
  refine r_if_eq (pc := 11) 65 dX7_told_11 (by decide) (fun c11 => absurd c11 (by rw [hr]; decide)) (fun _ => ?_)
  refine r_iload_1 (pc := 14) dX7_told_14 ?_
  refine r_sipush (pc := 15) 200 dX7_told_15 (by decide) ?_
  refine r_idiv (pc := 18) dX7_told_18 (by decide) ?_
  refine r_iconst (pc := 19) 1 dX7_told_19 (by decide) ?_
  refine r_isub (pc := 20) dX7_told_20 ?_
  rw [e1]
  refine r_istore_2 (pc := 21) dX7_told_21 rfl (by decide) ?_
  refine r_aload_0 (pc := 22) dX7_told_22 ?_
  refine r_iload_2 (pc := 23) dX7_told_23 ?_
  refine r_cV1_1 (pc := 24) (ct_X7_isMan hk) cv_X7_isMan ⟨Nat.le_of_ble_eq_true rfl, Nat.le_of_ble_eq_true rfl⟩ ml_X7_106 dX7_told_24 (by omega) (wm_o _ _ _) rfl rfl (Nat.le_of_ble_eq_true rfl) ?_
  refine r_if_eq (pc := 27) 62 dX7_told_27 (by decide) (fun c27 => absurd c27 (by rw [hb]; decide)) (fun _ => ?_)
  refine r_iload_1 (pc := 30) dX7_told_30 ?_
  refine r_sipush (pc := 31) 200 dX7_told_31 (by decide) ?_
  refine r_irem (pc := 34) dX7_told_34 (by decide) ?_
  rw [e2]
  refine r_cS1_1 (pc := 35) (ct_X7_isCell) cs_X7_isCell ⟨Nat.le_of_ble_eq_true rfl, Nat.le_of_ble_eq_true rfl⟩ ml_X7_96 dX7_told_35 rfl (Nat.le_of_ble_eq_true rfl) ?_
  refine r_if_eq (pc := 38) 62 dX7_told_38 (by decide) (fun c38 => absurd c38 (by rw [isC_n hc]; decide)) (fun _ => ?_)
  refine r_aload_0 (pc := 41) dX7_told_41 ?_
  refine r_iload_2 (pc := 42) dX7_told_42 ?_
  refine r_iload_1 (pc := 43) dX7_told_43 ?_
  refine r_sipush (pc := 44) 200 dX7_told_44 (by decide) ?_
  refine r_irem (pc := 47) dX7_told_47 (by decide) ?_
  rw [e2]
  refine r_cV1_2 (pc := 48) (ct_X7_isKnown hk (by omega) hc) cv_X7_isKnown ⟨Nat.le_of_ble_eq_true rfl, Nat.le_of_ble_eq_true rfl⟩ ml_X7_114 dX7_told_48 (by omega) (wm_o _ _ _) rfl rfl (Nat.le_of_ble_eq_true rfl) ?_
  refine r_if_eq (pc := 51) 58 dX7_told_51 (by decide) (fun c51 => ?_) (fun c51 => ?_)
  · rw [bI_0] at c51
    refine r_iconst (pc := 58) 0 dX7_told_58 (by decide) ?_
    refine r_goto (pc := 59) 64 dX7_told_59 (by decide) ?_
    refine r_iret (pc := 64) dX7_told_64 rfl (by rw [c51]; rfl) rfl
  · rw [bI_n0] at c51
    refine r_iconst (pc := 54) 1 dX7_told_54 (by decide) ?_
    refine r_goto (pc := 55) 64 dX7_told_55 (by decide) ?_
    refine r_iret (pc := 64) dX7_told_64 rfl (by rw [c51]; rfl) rfl
theorem ct_X7_toldC {h : Wd} {k t : Nat} {c : Mod} (hk : k + 24 < 76) (ht : t < 64) : Ct mX7_told [.ref k, .int (nI (100 + t))] (wm h k c) (some (.int (10 * wm_ore c t + (if wm_owner c t < 0 then 9 else wm_owner c t)))) (wm h k c) := by
  have r1 : inR (nI (100 + t)) 200 1399 = false := decide_eq_false (fun z => by have := (nI_lI (a := 200) (by decide) (by omega)).mp z.1; omega)
  have r2 : inR (nI (100 + t)) 100 163 = true := decide_eq_true ⟨(nI_lI (a := 100) (by decide) (by omega)).mpr (by omega), (nI_lI (b := 163) (by omega) (by decide)).mpr (by omega)⟩
  have e1 : nI (100 + t) - 100 = nI t := by
    rw [Nat.add_comm 100 t, ← nI_add, show (100 : Int32) = nI 100 from rfl, Int32.add_sub_cancel]
  refine Ct.of (Z := List.replicate 1 .null) (by decide) (Nat.le_of_ble_eq_true rfl) (fun z hz => List.eq_of_mem_replicate hz) ?_
  show WW mX7_told 0 [.ref k, .int (nI (100 + t)), .null] [] _ _ _
  refine r_iload_1 (pc := 0) dX7_told_0 ?_
  refine r_i2l (pc := 1) dX7_told_1 ?_
  refine r_ldc2 (pc := 2) dX7_told_2 kl_X7_328 ?_
  refine r_ldc2 (pc := 5) dX7_told_5 kl_X7_330 ?_
  refine r_cS1_3 (pc := 8) (ct_X7_inI (lo := 200) (hi := 1399) (by decide) (by decide)) cs_X7_in ⟨Nat.le_of_ble_eq_true rfl, Nat.le_of_ble_eq_true rfl⟩ ml_X7_86 dX7_told_8 rfl (Nat.le_of_ble_eq_true rfl) ?_
  refine r_if_eq (pc := 11) 65 dX7_told_11 (by decide) (fun _ => ?_) (fun c11 => absurd (by rw [r1]; decide) (c11))
  refine r_iload_1 (pc := 65) dX7_told_65 ?_
  refine r_i2l (pc := 66) dX7_told_66 ?_
  refine r_ldc2 (pc := 67) dX7_told_67 kl_X7_332 ?_
  refine r_ldc2 (pc := 70) dX7_told_70 kl_X7_334 ?_
  refine r_cS1_3 (pc := 73) (ct_X7_inI (lo := 100) (hi := 163) (by decide) (by decide)) cs_X7_in ⟨Nat.le_of_ble_eq_true rfl, Nat.le_of_ble_eq_true rfl⟩ ml_X7_86 dX7_told_73 rfl (Nat.le_of_ble_eq_true rfl) ?_
  refine r_if_eq (pc := 76) 115 dX7_told_76 (by decide) (fun c76 => absurd c76 (by rw [r2]; decide)) (fun _ => ?_)
  refine r_iload_1 (pc := 79) dX7_told_79 ?_
  refine r_bipush (pc := 80) 100 dX7_told_80 (by decide) ?_
  refine r_isub (pc := 82) dX7_told_82 ?_
  rw [e1]
  refine r_istore_2 (pc := 83) dX7_told_83 rfl (by decide) ?_
  refine r_bipush (pc := 84) 10 dX7_told_84 (by decide) ?_
  refine r_aload_0 (pc := 86) dX7_told_86 ?_
  refine r_wm_get_ore (pc := 87) hk fl_X7_7 dX7_told_87 ?_
  refine r_iload_2 (pc := 90) dX7_told_90 ?_
  refine r_wm_ld_ore (pc := 91) hk (by omega) dX7_told_91 ?_
  refine r_imul (pc := 92) dX7_told_92 ?_
  refine r_aload_0 (pc := 93) dX7_told_93 ?_
  refine r_wm_get_owner (pc := 94) hk fl_X7_13 dX7_told_94 ?_
  refine r_iload_2 (pc := 97) dX7_told_97 ?_
  refine r_wm_ld_owner (pc := 98) hk (by omega) dX7_told_98 ?_
  refine r_if_ge (pc := 99) 107 dX7_told_99 (by decide) (fun c99 => ?_) (fun c99 => ?_)
  · refine r_aload_0 (pc := 107) dX7_told_107 ?_
    refine r_wm_get_owner (pc := 108) hk fl_X7_13 dX7_told_108 ?_
    refine r_iload_2 (pc := 111) dX7_told_111 ?_
    refine r_wm_ld_owner (pc := 112) hk (by omega) dX7_told_112 ?_
    refine r_iadd (pc := 113) dX7_told_113 ?_
    refine r_iret (pc := 114) dX7_told_114 rfl (by rw [if_neg (Int32.not_lt.mpr c99)]) rfl
  · refine r_bipush (pc := 102) 9 dX7_told_102 (by decide) ?_
    refine r_goto (pc := 104) 113 dX7_told_104 (by decide) ?_
    refine r_iadd (pc := 113) dX7_told_113 ?_
    refine r_iret (pc := 114) dX7_told_114 rfl (by rw [if_pos (i_nle c99)]) rfl
theorem ct_X7_toldM {h : Wd} {k n : Nat} {c : Mod} {v : Int32} (hk : k + 24 < 76) (h1 : 10 ≤ n) (h2 : n ≤ 69) (hv : Ct mX7_toldOf [.ref k, .int (nI (n / 10 - 1)), .int (nI (n % 10))] (wm h k c) (some (.int v)) (wm h k c)) : Ct mX7_told [.ref k, .int (nI n)] (wm h k c) (some (.int v)) (wm h k c) := by
  have r1 : inR (nI n) 200 1399 = false := decide_eq_false (fun z => by have := (nI_lI (a := 200) (by decide) (by omega)).mp z.1; omega)
  have r2 : inR (nI n) 100 163 = false := decide_eq_false (fun z => by have := (nI_lI (a := 100) (by decide) (by omega)).mp z.1; omega)
  have r3 : inR (nI n) 10 69 = true := decide_eq_true ⟨(nI_lI (a := 10) (by decide) (by omega)).mpr h1, (nI_lI (b := 69) (by omega) (by decide)).mpr h2⟩
  have e1 : nI n / 10 - 1 = nI (n / 10 - 1) := by
    rw [show nI n / 10 = nI (n / 10) from pk_div (d := 10) (by omega) (by decide) (by decide), show n / 10 = n / 10 - 1 + 1 by omega, nI_pred]
    rfl
  have e2 : nI n - nI n / 10 * 10 = nI (n % 10) := pk_rem (d := 10) (by omega) (by decide) (by decide)
  refine Ct.of (Z := List.replicate 1 .null) (by decide) (Nat.le_of_ble_eq_true rfl) (fun z hz => List.eq_of_mem_replicate hz) ?_
  show WW mX7_told 0 [.ref k, .int (nI n), .null] [] _ _ _
  refine r_iload_1 (pc := 0) dX7_told_0 ?_
  refine r_i2l (pc := 1) dX7_told_1 ?_
  refine r_ldc2 (pc := 2) dX7_told_2 kl_X7_328 ?_
  refine r_ldc2 (pc := 5) dX7_told_5 kl_X7_330 ?_
  refine r_cS1_3 (pc := 8) (ct_X7_inI (lo := 200) (hi := 1399) (by decide) (by decide)) cs_X7_in ⟨Nat.le_of_ble_eq_true rfl, Nat.le_of_ble_eq_true rfl⟩ ml_X7_86 dX7_told_8 rfl (Nat.le_of_ble_eq_true rfl) ?_
  refine r_if_eq (pc := 11) 65 dX7_told_11 (by decide) (fun _ => ?_) (fun c11 => absurd (by rw [r1]; decide) (c11))
  refine r_iload_1 (pc := 65) dX7_told_65 ?_
  refine r_i2l (pc := 66) dX7_told_66 ?_
  refine r_ldc2 (pc := 67) dX7_told_67 kl_X7_332 ?_
  refine r_ldc2 (pc := 70) dX7_told_70 kl_X7_334 ?_
  refine r_cS1_3 (pc := 73) (ct_X7_inI (lo := 100) (hi := 163) (by decide) (by decide)) cs_X7_in ⟨Nat.le_of_ble_eq_true rfl, Nat.le_of_ble_eq_true rfl⟩ ml_X7_86 dX7_told_73 rfl (Nat.le_of_ble_eq_true rfl) ?_
  refine r_if_eq (pc := 76) 115 dX7_told_76 (by decide) (fun _ => ?_) (fun c76 => absurd (by rw [r2]; decide) (c76))
  refine r_iload_1 (pc := 115) dX7_told_115 ?_
  refine r_i2l (pc := 116) dX7_told_116 ?_
  refine r_ldc2 (pc := 117) dX7_told_117 kl_X7_294 ?_
  refine r_ldc2 (pc := 120) dX7_told_120 kl_X7_336 ?_
  refine r_cS1_3 (pc := 123) (ct_X7_inI (lo := 10) (hi := 69) (by decide) (by decide)) cs_X7_in ⟨Nat.le_of_ble_eq_true rfl, Nat.le_of_ble_eq_true rfl⟩ ml_X7_86 dX7_told_123 rfl (Nat.le_of_ble_eq_true rfl) ?_
  refine r_if_eq (pc := 126) 144 dX7_told_126 (by decide) (fun c126 => absurd c126 (by rw [r3]; decide)) (fun _ => ?_)
  refine r_aload_0 (pc := 129) dX7_told_129 ?_
  refine r_iload_1 (pc := 130) dX7_told_130 ?_
  refine r_bipush (pc := 131) 10 dX7_told_131 (by decide) ?_
  refine r_idiv (pc := 133) dX7_told_133 (by decide) ?_
  refine r_iconst (pc := 134) 1 dX7_told_134 (by decide) ?_
  refine r_isub (pc := 135) dX7_told_135 ?_
  refine r_iload_1 (pc := 136) dX7_told_136 ?_
  refine r_bipush (pc := 137) 10 dX7_told_137 (by decide) ?_
  refine r_irem (pc := 139) dX7_told_139 (by decide) ?_
  rw [e1, e2]
  refine r_cV1_2 (pc := 140) (hv) cv_X7_toldOf ⟨Nat.le_of_ble_eq_true rfl, Nat.le_of_ble_eq_true rfl⟩ ml_X7_338 dX7_told_140 (by omega) (wm_o _ _ _) rfl rfl (Nat.le_of_ble_eq_true rfl) ?_
  refine r_iret (pc := 143) dX7_told_143 rfl (by first | rfl | simp_all [bI]) rfl
theorem ct_X7_toldR {h : Wd} {k : Nat} {c : Mod} {x : Int32} (hk : k + 24 < 76) (r1 : inR x 200 1399 = false) (r2 : inR x 100 163 = false) (r3 : inR x 10 69 = false) : Ct mX7_told [.ref k, .int x] (wm h k c) (some (.int (if x = 0 then wm_padMany c else if x = 1 then wm_men c else if x = 2 then wm_tales c else if x = 3 then wm_sights c else -2))) (wm h k c) := by
  refine Ct.of (Z := List.replicate 1 .null) (by decide) (Nat.le_of_ble_eq_true rfl) (fun z hz => List.eq_of_mem_replicate hz) ?_
  show WW mX7_told 0 [.ref k, .int x, .null] [] _ _ _
  refine r_iload_1 (pc := 0) dX7_told_0 ?_
  refine r_i2l (pc := 1) dX7_told_1 ?_
  refine r_ldc2 (pc := 2) dX7_told_2 kl_X7_328 ?_
  refine r_ldc2 (pc := 5) dX7_told_5 kl_X7_330 ?_
  refine r_cS1_3 (pc := 8) (ct_X7_inI (lo := 200) (hi := 1399) (by decide) (by decide)) cs_X7_in ⟨Nat.le_of_ble_eq_true rfl, Nat.le_of_ble_eq_true rfl⟩ ml_X7_86 dX7_told_8 rfl (Nat.le_of_ble_eq_true rfl) ?_
  refine r_if_eq (pc := 11) 65 dX7_told_11 (by decide) (fun _ => ?_) (fun c11 => absurd (by rw [r1]; decide) (c11))
  refine r_iload_1 (pc := 65) dX7_told_65 ?_
  refine r_i2l (pc := 66) dX7_told_66 ?_
  refine r_ldc2 (pc := 67) dX7_told_67 kl_X7_332 ?_
  refine r_ldc2 (pc := 70) dX7_told_70 kl_X7_334 ?_
  refine r_cS1_3 (pc := 73) (ct_X7_inI (lo := 100) (hi := 163) (by decide) (by decide)) cs_X7_in ⟨Nat.le_of_ble_eq_true rfl, Nat.le_of_ble_eq_true rfl⟩ ml_X7_86 dX7_told_73 rfl (Nat.le_of_ble_eq_true rfl) ?_
  refine r_if_eq (pc := 76) 115 dX7_told_76 (by decide) (fun _ => ?_) (fun c76 => absurd (by rw [r2]; decide) (c76))
  refine r_iload_1 (pc := 115) dX7_told_115 ?_
  refine r_i2l (pc := 116) dX7_told_116 ?_
  refine r_ldc2 (pc := 117) dX7_told_117 kl_X7_294 ?_
  refine r_ldc2 (pc := 120) dX7_told_120 kl_X7_336 ?_
  refine r_cS1_3 (pc := 123) (ct_X7_inI (lo := 10) (hi := 69) (by decide) (by decide)) cs_X7_in ⟨Nat.le_of_ble_eq_true rfl, Nat.le_of_ble_eq_true rfl⟩ ml_X7_86 dX7_told_123 rfl (Nat.le_of_ble_eq_true rfl) ?_
  refine r_if_eq (pc := 126) 144 dX7_told_126 (by decide) (fun _ => ?_) (fun c126 => absurd (by rw [r3]; decide) (c126))
  refine r_iload_1 (pc := 144) dX7_told_144 ?_
  refine r_if_ne (pc := 145) 155 dX7_told_145 (by decide) (fun c145 => ?_) (fun c145 => ?_)
  · refine r_iload_1 (pc := 155) dX7_told_155 ?_
    refine r_iconst (pc := 156) 1 dX7_told_156 (by decide) ?_
    refine r_icmp_ne (pc := 157) 167 dX7_told_157 (by decide) (fun c157 => ?_) (fun c157 => ?_)
    · refine r_iload_1 (pc := 167) dX7_told_167 ?_
      refine r_iconst (pc := 168) 2 dX7_told_168 (by decide) ?_
      refine r_icmp_ne (pc := 169) 179 dX7_told_169 (by decide) (fun c169 => ?_) (fun c169 => ?_)
      · refine r_iload_1 (pc := 179) dX7_told_179 ?_
        refine r_iconst (pc := 180) 3 dX7_told_180 (by decide) ?_
        refine r_icmp_ne (pc := 181) 191 dX7_told_181 (by decide) (fun c181 => ?_) (fun c181 => ?_)
        · refine r_bipush (pc := 191) (-2) dX7_told_191 (by decide) ?_
          refine r_iret (pc := 193) dX7_told_193 rfl (by simp_all) rfl
        · refine r_aload_0 (pc := 184) dX7_told_184 ?_
          refine r_wm_get_sights (pc := 185) hk fl_X7_267 dX7_told_185 ?_
          refine r_goto (pc := 188) 193 dX7_told_188 (by decide) ?_
          refine r_iret (pc := 193) dX7_told_193 rfl (by simp_all) rfl
      · refine r_aload_0 (pc := 172) dX7_told_172 ?_
        refine r_wm_get_tales (pc := 173) hk fl_X7_243 dX7_told_173 ?_
        refine r_goto (pc := 176) 193 dX7_told_176 (by decide) ?_
        refine r_iret (pc := 193) dX7_told_193 rfl (by simp_all) rfl
    · refine r_aload_0 (pc := 160) dX7_told_160 ?_
      refine r_wm_get_men (pc := 161) hk fl_X7_92 dX7_told_161 ?_
      refine r_goto (pc := 164) 193 dX7_told_164 (by decide) ?_
      refine r_iret (pc := 193) dX7_told_193 rfl (by simp_all) rfl
  · refine r_aload_0 (pc := 148) dX7_told_148 ?_
    refine r_wm_get_padMany (pc := 149) hk fl_X7_129 dX7_told_149 ?_
    refine r_goto (pc := 152) 193 dX7_told_152 (by decide) ?_
    refine r_iret (pc := 193) dX7_told_193 rfl (by simp_all) rfl
