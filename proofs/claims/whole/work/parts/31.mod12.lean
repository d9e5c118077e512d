/-! THE REFERENCE: turns, colds -/
theorem ct_X7_leftEnd {h : Wd} {k j m : Nat} {c : Mod} (hk : k + 24 < 76) (hj : j + (m + 1) ≤ 6) : Ct mX7_leftEnd [.ref k, .int (nI j), .int (nI (m + 1))] (wm h k c) (some (.int (wm_digit c j - wm_more c (7 * m + j + 1)))) (wm h k c) := by
  refine Ct.of (Z := List.replicate 0 .null) (by decide) (Nat.le_of_ble_eq_true rfl) (fun z hz => List.eq_of_mem_replicate hz) ?_
  show WW mX7_leftEnd 0 [.ref k, .int (nI j), .int (nI (m + 1))] [] _ _ _
  refine r_aload_0 (pc := 0) dX7_leftEnd_0 ?_
  refine r_wm_get_digit (pc := 1) hk fl_X7_68 dX7_leftEnd_1 ?_
  refine r_iload_1 (pc := 4) dX7_leftEnd_4 ?_
  refine r_wm_ld_digit (pc := 5) hk (by omega) dX7_leftEnd_5 ?_
  refine r_aload_0 (pc := 6) dX7_leftEnd_6 ?_
  refine r_wm_get_more (pc := 7) hk fl_X7_71 dX7_leftEnd_7 ?_
  refine r_bipush (pc := 10) 7 dX7_leftEnd_10 (by decide) ?_
  refine r_iload_2 (pc := 12) dX7_leftEnd_12 ?_
  refine r_iconst (pc := 13) 1 dX7_leftEnd_13 (by decide) ?_
  refine r_isub (pc := 14) dX7_leftEnd_14 ?_
  rw [nI_pred]
  refine r_imul (pc := 15) dX7_leftEnd_15 ?_
  rw [show (7 : Int32) * nI m = nI (7 * m) from pk_mul 7 m]
  refine r_iload_1 (pc := 16) dX7_leftEnd_16 ?_
  refine r_iadd (pc := 17) dX7_leftEnd_17 ?_
  rw [nI_add]
  refine r_iconst (pc := 18) 1 dX7_leftEnd_18 (by decide) ?_
  refine r_iadd (pc := 19) dX7_leftEnd_19 ?_
  rw [← nI_succ]
  refine r_wm_ld_more (pc := 20) hk (by omega) dX7_leftEnd_20 ?_
  refine r_isub (pc := 21) dX7_leftEnd_21 ?_
  refine r_iret (pc := 22) dX7_leftEnd_22 rfl (by first | rfl | simp_all [bI]) rfl
theorem ct_X7_rightEnd {h : Wd} {k j m : Nat} {c : Mod} (hk : k + 24 < 76) (hj : j + (m + 1) ≤ 6) : Ct mX7_rightEnd [.ref k, .int (nI j), .int (nI (m + 1))] (wm h k c) (some (.int (wm_digit c (j + m) - wm_more c (7 * m + j)))) (wm h k c) := by
  refine Ct.of (Z := List.replicate 0 .null) (by decide) (Nat.le_of_ble_eq_true rfl) (fun z hz => List.eq_of_mem_replicate hz) ?_
  show WW mX7_rightEnd 0 [.ref k, .int (nI j), .int (nI (m + 1))] [] _ _ _
  refine r_aload_0 (pc := 0) dX7_rightEnd_0 ?_
  refine r_wm_get_digit (pc := 1) hk fl_X7_68 dX7_rightEnd_1 ?_
  refine r_iload_1 (pc := 4) dX7_rightEnd_4 ?_
  refine r_iload_2 (pc := 5) dX7_rightEnd_5 ?_
  refine r_iadd (pc := 6) dX7_rightEnd_6 ?_
  refine r_iconst (pc := 7) 1 dX7_rightEnd_7 (by decide) ?_
  refine r_isub (pc := 8) dX7_rightEnd_8 ?_
  rw [nI_add, ← Nat.add_assoc, nI_pred]
  refine r_wm_ld_digit (pc := 9) hk (by omega) dX7_rightEnd_9 ?_
  refine r_aload_0 (pc := 10) dX7_rightEnd_10 ?_
  refine r_wm_get_more (pc := 11) hk fl_X7_71 dX7_rightEnd_11 ?_
  refine r_bipush (pc := 14) 7 dX7_rightEnd_14 (by decide) ?_
  refine r_iload_2 (pc := 16) dX7_rightEnd_16 ?_
  refine r_iconst (pc := 17) 1 dX7_rightEnd_17 (by decide) ?_
  refine r_isub (pc := 18) dX7_rightEnd_18 ?_
  rw [nI_pred]
  refine r_imul (pc := 19) dX7_rightEnd_19 ?_
  rw [show (7 : Int32) * nI m = nI (7 * m) from pk_mul 7 m]
  refine r_iload_1 (pc := 20) dX7_rightEnd_20 ?_
  refine r_iadd (pc := 21) dX7_rightEnd_21 ?_
  rw [nI_add]
  refine r_wm_ld_more (pc := 22) hk (by omega) dX7_rightEnd_22 ?_
  refine r_isub (pc := 23) dX7_rightEnd_23 ?_
  refine r_iret (pc := 24) dX7_rightEnd_24 rfl (by first | rfl | simp_all [bI]) rfl
def mxG (a b : Int32) : Int32 := if a < b then b else a
def mw (d g : Nat → Int32) (m : Nat) : Nat → Nat → Int32
  | 0 => g
  | j + 1 => upd (mw d g m j) (7 * (m + 1) + j) (mxG (d j - mw d g m j (7 * m + j + 1)) (d (j + m) - mw d g m j (7 * m + j)))
def mM (d g : Nat → Int32) : Nat → Nat → Int32
  | 0 => g
  | m + 1 => mw d (mM d g m) m (6 - m)
def mz (f : Nat → Int32) : Nat → Nat → Int32
  | 0 => f
  | n + 1 => upd (mz f n) n 0
theorem more_more (c : Mod) (A B : Nat → Int32) : wm_s_more (wm_s_more c A) B = wm_s_more c B := Prod.ext (bx_uu _ _ _ _) rfl
theorem more_get (c : Mod) (A : Nat → Int32) : wm_more (wm_s_more c A) = A := by
  show va_up c.1 18 A 18 = A
  exact va_up_self _ _ _
theorem more_dig (c : Mod) (A : Nat → Int32) : wm_digit (wm_s_more c A) = wm_digit c := by
  show va_up c.1 18 A 17 = c.1 17
  exact va_up_ne _ _ (by decide)
theorem dig_dig (c : Mod) (A B : Nat → Int32) : wm_s_digit (wm_s_digit c A) B = wm_s_digit c B := Prod.ext (bx_uu _ _ _ _) rfl
theorem dig_get (c : Mod) (A : Nat → Int32) : wm_digit (wm_s_digit c A) = A := by
  show va_up c.1 17 A 17 = A
  exact va_up_self _ _ _
theorem lp_X7_t3 {h h' : Wd} {k m : Nat} {c : Mod} {x y z0 : Int32} {r0 : Option Value} (hk : k + 24 < 76) (hm : m < 6) (g : Nat → Int32) (k1 : ∀ z1 z2, WW mX7_turns 157 [.ref k, .int x, .int y, .int z0, .int (nI (m + 1)), .int (nI (6 - m)), z1, z2] [] (wm h k (wm_s_more c (mw (wm_digit c) g m (6 - m)))) r0 h') : ∀ r j, j + r = 6 - m → ∀ z1 z2, WW mX7_turns 94 [.ref k, .int x, .int y, .int z0, .int (nI (m + 1)), .int (nI j), z1, z2] [] (wm h k (wm_s_more c (mw (wm_digit c) g m j))) r0 h' := by
  intro r
  induction r with
  | zero =>
    intro j hj z1 z2
    obtain rfl : j = 6 - m := by omega
    refine r_iload_5 (pc := 94) dX7_turns_94 ?_
    refine r_iload_4 (pc := 96) dX7_turns_96 ?_
    refine r_iadd (pc := 98) dX7_turns_98 ?_
    rw [nI_add, show 6 - m + (m + 1) = 7 by omega]
    refine r_bipush (pc := 99) 6 dX7_turns_99 (by decide) ?_
    refine r_icmp_gt (pc := 101) 157 dX7_turns_101 (by decide) (fun _ => ?_) (fun c101 => absurd (by decide) (c101))
    exact k1 _ _
  | succ r ih =>
    intro j hj z1 z2
    have go : ∀ (v : Int32), v = mxG (wm_digit c j - mw (wm_digit c) g m j (7 * m + j + 1)) (wm_digit c (j + m) - mw (wm_digit c) g m j (7 * m + j)) → ∀ y1 y2, WW mX7_turns 94 [.ref k, .int x, .int y, .int z0, .int (nI (m + 1)), .int (nI (j + 1)), y1, y2] [] (wm h k (wm_s_more (wm_s_more c (mw (wm_digit c) g m j)) (upd (wm_more (wm_s_more c (mw (wm_digit c) g m j))) (7 * (m + 1) + j) v))) r0 h' := fun v ev y1 y2 => (ih (j + 1) (by omega) y1 y2).w (by rw [ev, more_more, more_get, mw])
    clear ih
    have cL := ct_X7_leftEnd (h := h) (k := k) (j := j) (m := m) (c := wm_s_more c (mw (wm_digit c) g m j)) hk (by omega)
    have cR := ct_X7_rightEnd (h := h) (k := k) (j := j) (m := m) (c := wm_s_more c (mw (wm_digit c) g m j)) hk (by omega)
    rw [more_get, more_dig] at cL cR
    refine r_iload_5 (pc := 94) dX7_turns_94 ?_
    refine r_iload_4 (pc := 96) dX7_turns_96 ?_
    refine r_iadd (pc := 98) dX7_turns_98 ?_
    rw [nI_add]
    refine r_bipush (pc := 99) 6 dX7_turns_99 (by decide) ?_
    refine r_icmp_gt (pc := 101) 157 dX7_turns_101 (by decide) (fun c101 => absurd c101 (Int32.not_lt.mpr (nI_le (a := j + (m + 1)) (b := 6) (by omega) (by decide)))) (fun _ => ?_)
    refine r_aload_0 (pc := 104) dX7_turns_104 ?_
    refine r_iload_5 (pc := 105) dX7_turns_105 ?_
    refine r_iload_4 (pc := 107) dX7_turns_107 ?_
    refine r_cV1_2 (pc := 109) (cL) cv_X7_leftEnd ⟨Nat.le_of_ble_eq_true rfl, Nat.le_of_ble_eq_true rfl⟩ ml_X7_288 dX7_turns_109 (by omega) (wm_o _ _ _) rfl rfl (Nat.le_of_ble_eq_true rfl) ?_
    refine r_istore_6 (pc := 112) dX7_turns_112 rfl (by decide) ?_
    refine r_aload_0 (pc := 114) dX7_turns_114 ?_
    refine r_iload_5 (pc := 115) dX7_turns_115 ?_
    refine r_iload_4 (pc := 117) dX7_turns_117 ?_
    refine r_cV1_2 (pc := 119) (cR) cv_X7_rightEnd ⟨Nat.le_of_ble_eq_true rfl, Nat.le_of_ble_eq_true rfl⟩ ml_X7_291 dX7_turns_119 (by omega) (wm_o _ _ _) rfl rfl (Nat.le_of_ble_eq_true rfl) ?_
    refine r_istore_7 (pc := 122) dX7_turns_122 rfl (by decide) ?_
    refine r_aload_0 (pc := 124) dX7_turns_124 ?_
    refine r_wm_get_more (pc := 125) hk fl_X7_71 dX7_turns_125 ?_
    refine r_bipush (pc := 128) 7 dX7_turns_128 (by decide) ?_
    refine r_iload_4 (pc := 130) dX7_turns_130 ?_
    refine r_imul (pc := 132) dX7_turns_132 ?_
    rw [show (7 : Int32) * nI (m + 1) = nI (7 * (m + 1)) from pk_mul 7 (m + 1)]
    refine r_iload_5 (pc := 133) dX7_turns_133 ?_
    refine r_iadd (pc := 135) dX7_turns_135 ?_
    rw [nI_add]
    refine r_iload_6 (pc := 136) dX7_turns_136 ?_
    refine r_iload_7 (pc := 138) dX7_turns_138 ?_
    refine r_icmp_lt (pc := 140) 148 dX7_turns_140 (by decide) (fun c140 => ?_) (fun c140 => ?_)
    · refine r_iload_7 (pc := 148) dX7_turns_148 ?_
      refine r_wm_st_more (pc := 150) hk (by omega) dX7_turns_150 ?_
      refine r_inc_5 (pc := 151) dX7_turns_151 rfl (by decide) ?_
      refine r_goto (pc := 154) 94 dX7_turns_154 (by decide) ?_
      exact go _ (by rw [mxG, if_pos c140]) _ _
    · refine r_iload_6 (pc := 143) dX7_turns_143 ?_
      refine r_goto (pc := 145) 150 dX7_turns_145 (by decide) ?_
      refine r_wm_st_more (pc := 150) hk (by omega) dX7_turns_150 ?_
      refine r_inc_5 (pc := 151) dX7_turns_151 rfl (by decide) ?_
      refine r_goto (pc := 154) 94 dX7_turns_154 (by decide) ?_
      exact go _ (by rw [mxG, if_neg c140]) _ _
theorem lp_X7_t2 {h h' : Wd} {k : Nat} {c : Mod} {x y z0 : Int32} {r0 : Option Value} (hk : k + 24 < 76) (g : Nat → Int32) (k1 : ∀ z0' z1 z2, WW mX7_turns 163 [.ref k, .int x, .int y, .int z0, .int (nI 7), z0', z1, z2] [] (wm h k (wm_s_more c (mM (wm_digit c) g 6))) r0 h') : ∀ r m, m + r = 6 → ∀ z0' z1 z2, WW mX7_turns 84 [.ref k, .int x, .int y, .int z0, .int (nI (m + 1)), z0', z1, z2] [] (wm h k (wm_s_more c (mM (wm_digit c) g m))) r0 h' := by
  intro r
  induction r with
  | zero =>
    intro m hm z0' z1 z2
    obtain rfl : m = 6 := by omega
    refine r_iload_4 (pc := 84) dX7_turns_84 ?_
    refine r_bipush (pc := 86) 6 dX7_turns_86 (by decide) ?_
    refine r_icmp_gt (pc := 88) 163 dX7_turns_88 (by decide) (fun _ => ?_) (fun c88 => absurd (by decide) (c88))
    exact k1 _ _ _
  | succ r ih =>
    intro m hm z0' z1 z2
    refine r_iload_4 (pc := 84) dX7_turns_84 ?_
    refine r_bipush (pc := 86) 6 dX7_turns_86 (by decide) ?_
    refine r_icmp_gt (pc := 88) 163 dX7_turns_88 (by decide) (fun c88 => absurd c88 (Int32.not_lt.mpr (nI_le (a := m + 1) (b := 6) (by omega) (by decide)))) (fun _ => ?_)
    refine r_iconst (pc := 91) 0 dX7_turns_91 (by decide) ?_
    refine r_istore_5 (pc := 92) dX7_turns_92 rfl (by decide) ?_
    refine lp_X7_t3 hk (by omega) (mM (wm_digit c) g m) (fun z1 z2 => ?_) (6 - m) 0 (by omega) z1 z2
    refine r_inc_4 (pc := 157) dX7_turns_157 rfl (by decide) ?_
    refine r_goto (pc := 160) 84 dX7_turns_160 (by decide) ?_
    exact (ih (m + 1) (by omega) _ _ _)
theorem lp_X7_t1 {h h' : Wd} {k : Nat} {c : Mod} {x y z0 : Int32} {r0 : Option Value} (hk : k + 24 < 76) (k1 : ∀ z0' z1 z2, WW mX7_turns 81 [.ref k, .int x, .int y, .int z0, .int (nI 7), z0', z1, z2] [] (wm h k (wm_s_more c (mz (wm_more c) 7))) r0 h') : ∀ r j, j + r = 7 → ∀ z0' z1 z2, WW mX7_turns 60 [.ref k, .int x, .int y, .int z0, .int (nI j), z0', z1, z2] [] (wm h k (wm_s_more c (mz (wm_more c) j))) r0 h' := by
  intro r
  induction r with
  | zero =>
    intro j hj z0' z1 z2
    obtain rfl : j = 7 := by omega
    refine r_iload_4 (pc := 60) dX7_turns_60 ?_
    refine r_bipush (pc := 62) 7 dX7_turns_62 (by decide) ?_
    refine r_icmp_ge (pc := 64) 81 dX7_turns_64 (by decide) (fun _ => ?_) (fun c64 => absurd (by decide) (c64))
    exact k1 _ _ _
  | succ r ih =>
    intro j hj z0' z1 z2
    refine r_iload_4 (pc := 60) dX7_turns_60 ?_
    refine r_bipush (pc := 62) 7 dX7_turns_62 (by decide) ?_
    refine r_icmp_ge (pc := 64) 81 dX7_turns_64 (by decide) (fun c64 => absurd c64 (nI_ge (a := j) (b := 7) (by omega) (by decide))) (fun _ => ?_)
    refine r_aload_0 (pc := 67) dX7_turns_67 ?_
    refine r_wm_get_more (pc := 68) hk fl_X7_71 dX7_turns_68 ?_
    refine r_iload_4 (pc := 71) dX7_turns_71 ?_
    refine r_iconst (pc := 73) 0 dX7_turns_73 (by decide) ?_
    refine r_wm_st_more (pc := 74) hk (by omega) dX7_turns_74 ?_
    refine r_inc_4 (pc := 75) dX7_turns_75 rfl (by decide) ?_
    refine r_goto (pc := 78) 60 dX7_turns_78 (by decide) ?_
    exact (ih (j + 1) (by omega) _ _ _).w (by rw [mz, more_more, more_get])
theorem lp_X7_t0 {h h' : Wd} {k : Nat} {c : Mod} {x y : Int32} {r0 : Option Value} (hk : k + 24 < 76) (k1 : ∀ z0' z1 z2, WW mX7_turns 57 [.ref k, .int x, .int y, .int (lfD x 6), .int (-1), z0', z1, z2] [] (wm h k (wm_s_digit c (wth (wm_digit c) x 6))) r0 h') : ∀ q i, i + q = 6 → ∀ z0' z1 z2, WW mX7_turns 30 [.ref k, .int x, .int y, .int (lfD x i), .int (nI q - 1), z0', z1, z2] [] (wm h k (wm_s_digit c (wth (wm_digit c) x i))) r0 h' := by
  intro q
  induction q with
  | zero =>
    intro i hi z0' z1 z2
    obtain rfl : i = 6 := by omega
    refine r_iload_4 (pc := 30) dX7_turns_30 ?_
    refine r_if_lt (pc := 32) 57 dX7_turns_32 (by decide) (fun _ => ?_) (fun c32 => absurd (by decide) (c32))
    exact k1 _ _ _
  | succ q ih =>
    intro i hi z0' z1 z2
    have eq : nI (q + 1) - 1 = nI q := nI_pred q
    have e5 : 5 - i = q := by omega
    rw [eq]
    refine r_iload_4 (pc := 30) dX7_turns_30 ?_
    refine r_if_lt (pc := 32) 57 dX7_turns_32 (by decide) (fun c32 => absurd c32 (nI_pos (by omega))) (fun _ => ?_)
    refine r_aload_0 (pc := 35) dX7_turns_35 ?_
    refine r_wm_get_digit (pc := 36) hk fl_X7_68 dX7_turns_36 ?_
    refine r_iload_4 (pc := 39) dX7_turns_39 ?_
    refine r_iload_3 (pc := 41) dX7_turns_41 ?_
    refine r_bipush (pc := 42) 10 dX7_turns_42 (by decide) ?_
    refine r_irem (pc := 44) dX7_turns_44 (by decide) ?_
    refine r_wm_st_digit (pc := 45) hk (by omega) dX7_turns_45 ?_
    refine r_iload_3 (pc := 46) dX7_turns_46 ?_
    refine r_bipush (pc := 47) 10 dX7_turns_47 (by decide) ?_
    refine r_idiv (pc := 49) dX7_turns_49 (by decide) ?_
    refine r_istore_3 (pc := 50) dX7_turns_50 rfl (by decide) ?_
    refine r_iinc_4 (pc := 51) (-1) dX7_turns_51 (by decide) rfl (by decide) ?_
    refine r_goto (pc := 54) 30 dX7_turns_54 (by decide) ?_
    exact ((ih (i + 1) (by omega) _ _ _).L (by rw [Int32.sub_eq_add_neg]; rfl)).w (by rw [wth, e5, dig_dig, dig_get]; rfl)
def tuD (c : Mod) (x : Int32) : Nat → Int32 := wth (wm_digit c) x 6
def tuG (c : Mod) (x : Int32) : Nat → Int32 := mM (tuD c x) (mz (wm_more c) 7) 6
def tuV (c : Mod) (x y : Int32) : Int32 := if y = 0 then tuG c x 42 + 100 else if tuD c x 0 - tuG c x 36 < tuD c x 5 - tuG c x 35 then 1 else 0
def tuM (c : Mod) (x : Int32) : Mod := wm_s_more (wm_s_digit c (tuD c x)) (tuG c x)
theorem ct_X7_turnsB {h : Wd} {k : Nat} {c : Mod} {x y : Int32} (hk : k + 24 < 76) (hb : (inR x 0 999999 && inR y 0 1) = false) : Ct mX7_turns [.ref k, .int x, .int y] (wm h k c) (some (.int (-2))) (wm h k c) := by
  refine Ct.of (Z := List.replicate 5 .null) (by decide) (Nat.le_of_ble_eq_true rfl) (fun z hz => List.eq_of_mem_replicate hz) ?_
  show WW mX7_turns 0 [.ref k, .int x, .int y, .null, .null, .null, .null, .null] [] _ _ _
  refine r_iload_1 (pc := 0) dX7_turns_0 ?_
  refine r_i2l (pc := 1) dX7_turns_1 ?_
  refine r_lconst (pc := 2) 0 dX7_turns_2 (by decide) ?_
  refine r_ldc2 (pc := 3) dX7_turns_3 kl_X7_252 ?_
  refine r_cS1_3 (pc := 6) (ct_X7_inI (lo := 0) (hi := 999999) (by decide) (by decide)) cs_X7_in ⟨Nat.le_of_ble_eq_true rfl, Nat.le_of_ble_eq_true rfl⟩ ml_X7_86 dX7_turns_6 rfl (Nat.le_of_ble_eq_true rfl) ?_
  refine r_if_eq (pc := 9) 22 dX7_turns_9 (by decide) (fun c9 => ?_) (fun c9 => ?_)
  · refine r_bipush (pc := 22) (-2) dX7_turns_22 (by decide) ?_
    refine r_iret (pc := 24) dX7_turns_24 rfl (by first | rfl | simp_all [bI]) rfl
  · refine r_iload_2 (pc := 12) dX7_turns_12 ?_
    refine r_i2l (pc := 13) dX7_turns_13 ?_
    refine r_lconst (pc := 14) 0 dX7_turns_14 (by decide) ?_
    refine r_lconst (pc := 15) 1 dX7_turns_15 (by decide) ?_
    refine r_cS1_3 (pc := 16) (ct_X7_inI (lo := 0) (hi := 1) (by decide) (by decide)) cs_X7_in ⟨Nat.le_of_ble_eq_true rfl, Nat.le_of_ble_eq_true rfl⟩ ml_X7_86 dX7_turns_16 rfl (Nat.le_of_ble_eq_true rfl) ?_
    refine r_if_ne (pc := 19) 25 dX7_turns_19 (by decide) (fun c19 => ?_) (fun c19 => ?_)
    · exact absurd hb (by rw [bI_n0] at c9 c19; rw [c9, c19]; decide)
    · refine r_bipush (pc := 22) (-2) dX7_turns_22 (by decide) ?_
      refine r_iret (pc := 24) dX7_turns_24 rfl (by first | rfl | simp_all [bI]) rfl
theorem mz_mz (c : Mod) (x : Int32) : wm_more (wm_s_digit c (tuD c x)) = wm_more c := by
  show va_up c.1 17 (tuD c x) 18 = c.1 18
  exact va_up_ne _ _ (by decide)
theorem ct_X7_turns {h : Wd} {k : Nat} {c : Mod} {x y : Int32} (hk : k + 24 < 76) (hx : inR x 0 999999 = true) (hy : inR y 0 1 = true) : Ct mX7_turns [.ref k, .int x, .int y] (wm h k c) (some (.int (tuV c x y))) (wm h k (tuM c x)) := by
  have e1 : wm_digit (wm_s_digit c (tuD c x)) = tuD c x := dig_get _ _
  have cL := ct_X7_leftEnd (h := h) (k := k) (j := 0) (m := 5) (c := tuM c x) hk (by decide)
  have cR := ct_X7_rightEnd (h := h) (k := k) (j := 0) (m := 5) (c := tuM c x) hk (by decide)
  have e2 : wm_more (tuM c x) = tuG c x := more_get _ _
  have e3 : wm_digit (tuM c x) = tuD c x := (more_dig _ _).trans e1
  rw [e2, e3] at cL cR
  refine Ct.of (Z := List.replicate 5 .null) (by decide) (Nat.le_of_ble_eq_true rfl) (fun z hz => List.eq_of_mem_replicate hz) ?_
  show WW mX7_turns 0 [.ref k, .int x, .int y, .null, .null, .null, .null, .null] [] _ _ _
  refine r_iload_1 (pc := 0) dX7_turns_0 ?_
  refine r_i2l (pc := 1) dX7_turns_1 ?_
  refine r_lconst (pc := 2) 0 dX7_turns_2 (by decide) ?_
  refine r_ldc2 (pc := 3) dX7_turns_3 kl_X7_252 ?_
  refine r_cS1_3 (pc := 6) (ct_X7_inI (lo := 0) (hi := 999999) (by decide) (by decide)) cs_X7_in ⟨Nat.le_of_ble_eq_true rfl, Nat.le_of_ble_eq_true rfl⟩ ml_X7_86 dX7_turns_6 rfl (Nat.le_of_ble_eq_true rfl) ?_
  refine r_if_eq (pc := 9) 22 dX7_turns_9 (by decide) (fun c9 => absurd c9 (by rw [hx]; decide)) (fun _ => ?_)
  refine r_iload_2 (pc := 12) dX7_turns_12 ?_
  refine r_i2l (pc := 13) dX7_turns_13 ?_
  refine r_lconst (pc := 14) 0 dX7_turns_14 (by decide) ?_
  refine r_lconst (pc := 15) 1 dX7_turns_15 (by decide) ?_
  refine r_cS1_3 (pc := 16) (ct_X7_inI (lo := 0) (hi := 1) (by decide) (by decide)) cs_X7_in ⟨Nat.le_of_ble_eq_true rfl, Nat.le_of_ble_eq_true rfl⟩ ml_X7_86 dX7_turns_16 rfl (Nat.le_of_ble_eq_true rfl) ?_
  refine r_if_ne (pc := 19) 25 dX7_turns_19 (by decide) (fun _ => ?_) (fun c19 => absurd c19 (by rw [hy]; decide))
  refine r_iload_1 (pc := 25) dX7_turns_25 ?_
  refine r_istore_3 (pc := 26) dX7_turns_26 rfl (by decide) ?_
  refine r_iconst (pc := 27) 5 dX7_turns_27 (by decide) ?_
  refine r_istore_4 (pc := 28) dX7_turns_28 rfl (by decide) ?_
  refine (lp_X7_t0 (c := c) hk (fun z0' z1 z2 => ?_) 6 0 rfl _ _ _).w (congrArg (wm h k) (Prod.ext (va_up_id _ 17).symm rfl))
  refine r_iconst (pc := 57) 0 dX7_turns_57 (by decide) ?_
  refine r_istore_4 (pc := 58) dX7_turns_58 rfl (by decide) ?_
  refine (lp_X7_t1 (c := wm_s_digit c (tuD c x)) hk (fun z0' z1 z2 => ?_) 7 0 rfl _ _ _).w (congrArg (wm h k) (Prod.ext (va_up_id _ 18).symm rfl))
  refine r_iconst (pc := 81) 1 dX7_turns_81 (by decide) ?_
  refine r_istore_4 (pc := 82) dX7_turns_82 rfl (by decide) ?_
  rw [mz_mz]
  refine lp_X7_t2 (c := wm_s_digit c (tuD c x)) hk (mz (wm_more c) 7) (fun z0' z1 z2 => ?_) 6 0 rfl _ _ _
  rw [e1]
  show WW mX7_turns 163 _ [] (wm h k (tuM c x)) _ _
  refine r_iload_2 (pc := 163) dX7_turns_163 ?_
  refine r_if_ne (pc := 164) 180 dX7_turns_164 (by decide) (fun c164 => ?_) (fun c164 => ?_)
  · refine r_aload_0 (pc := 180) dX7_turns_180 ?_
    refine r_iconst (pc := 181) 0 dX7_turns_181 (by decide) ?_
    refine r_bipush (pc := 182) 6 dX7_turns_182 (by decide) ?_
    refine r_cV1_2 (pc := 184) (cL) cv_X7_leftEnd ⟨Nat.le_of_ble_eq_true rfl, Nat.le_of_ble_eq_true rfl⟩ ml_X7_288 dX7_turns_184 (by omega) (wm_o _ _ _) rfl rfl (Nat.le_of_ble_eq_true rfl) ?_
    refine r_aload_0 (pc := 187) dX7_turns_187 ?_
    refine r_iconst (pc := 188) 0 dX7_turns_188 (by decide) ?_
    refine r_bipush (pc := 189) 6 dX7_turns_189 (by decide) ?_
    refine r_cV1_2 (pc := 191) (cR) cv_X7_rightEnd ⟨Nat.le_of_ble_eq_true rfl, Nat.le_of_ble_eq_true rfl⟩ ml_X7_291 dX7_turns_191 (by omega) (wm_o _ _ _) rfl rfl (Nat.le_of_ble_eq_true rfl) ?_
    refine r_icmp_lt (pc := 194) 201 dX7_turns_194 (by decide) (fun c194 => ?_) (fun c194 => ?_)
    · refine r_iconst (pc := 201) 1 dX7_turns_201 (by decide) ?_
      refine r_iret (pc := 202) dX7_turns_202 rfl (by rw [tuV, if_neg c164, if_pos c194]) rfl
    · refine r_iconst (pc := 197) 0 dX7_turns_197 (by decide) ?_
      refine r_goto (pc := 198) 202 dX7_turns_198 (by decide) ?_
      refine r_iret (pc := 202) dX7_turns_202 rfl (by rw [tuV, if_neg c164, if_neg c194]) rfl
  · refine r_aload_0 (pc := 167) dX7_turns_167 ?_
    refine r_wm_get_more (pc := 168) hk fl_X7_71 dX7_turns_168 ?_
    refine r_bipush (pc := 171) 42 dX7_turns_171 (by decide) ?_
    rw [show (42 : Int32) = nI 42 from rfl]
    refine r_wm_ld_more (pc := 173) hk (by omega) dX7_turns_173 ?_
    refine r_bipush (pc := 174) 100 dX7_turns_174 (by decide) ?_
    refine r_iadd (pc := 176) dX7_turns_176 ?_
    refine r_goto (pc := 177) 202 dX7_turns_177 (by decide) ?_
    refine r_iret (pc := 202) dX7_turns_202 rfl (by rw [tuV, if_pos c164, e2]) rfl
