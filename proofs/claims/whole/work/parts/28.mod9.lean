/-! THE REFERENCE: partners -/
theorem lp_X7_goldOf {h : Wd} {k : Nat} {c : Mod} {x : Int64} (hk : k + 24 < 76) : ∀ n j, j + n = 64 → WW mX7_goldOf 5 [.ref k, .long x, .null, .int (gsum (wm_ore c) x j), .int (nI j)] [] (wm h k c) (some (.int (gsum (wm_ore c) x 64))) (wm h k c) := by
  intro n
  induction n with
  | zero =>
    intro j hj
    obtain rfl : j = 64 := by omega
    refine r_iload_4 (pc := 5) dX7_goldOf_5 ?_
    refine r_bipush (pc := 7) 64 dX7_goldOf_7 (by decide) ?_
    refine r_icmp_ge (pc := 9) 43 dX7_goldOf_9 (by decide) (fun _ => ?_) (fun c9 => absurd (nI_le (a := 64) (b := 64) (by omega) (by omega)) (c9))
    refine r_iload_3 (pc := 43) dX7_goldOf_43 ?_
    refine r_iret (pc := 44) dX7_goldOf_44 rfl (by first | rfl | simp_all [bI]) rfl
  | succ n ih =>
    intro j hj
    refine r_iload_4 (pc := 5) dX7_goldOf_5 ?_
    refine r_bipush (pc := 7) 64 dX7_goldOf_7 (by decide) ?_
    refine r_icmp_ge (pc := 9) 43 dX7_goldOf_9 (by decide) (fun c9 => absurd c9 (nI_ge (a := j) (b := 64) (by omega) (by decide))) (fun _ => ?_)
    refine r_iload_3 (pc := 12) dX7_goldOf_12 ?_
    refine r_lload_1 (pc := 13) dX7_goldOf_13 ?_
    refine r_iload_4 (pc := 14) dX7_goldOf_14 ?_
    refine r_lshr (pc := 16) dX7_goldOf_16 ?_
    refine r_lconst (pc := 17) 1 dX7_goldOf_17 (by decide) ?_
    refine r_land (pc := 18) dX7_goldOf_18 ?_
    refine r_lconst (pc := 19) 1 dX7_goldOf_19 (by decide) ?_
    refine r_lcmp_ne (pc := 20) 34 dX7_goldOf_20 dX7_goldOf_21 (by decide) (fun c20 => ?_) (fun c20 => ?_)
    · refine r_iconst (pc := 34) 0 dX7_goldOf_34 (by decide) ?_
      refine r_iadd (pc := 35) dX7_goldOf_35 ?_
      refine r_istore_3 (pc := 36) dX7_goldOf_36 rfl (by decide) ?_
      refine r_inc_4 (pc := 37) dX7_goldOf_37 rfl (by decide) ?_
      refine r_goto (pc := 40) 5 dX7_goldOf_40 (by decide) ?_
      exact (ih (j + 1) (by omega)).L (by rw [gsum, isum, if_neg (fun z => c20 ((kb_s x (by omega)).mpr z)), Int32.add_zero] <;> rfl)
    · refine r_aload_0 (pc := 24) dX7_goldOf_24 ?_
      refine r_wm_get_ore (pc := 25) hk fl_X7_7 dX7_goldOf_25 ?_
      refine r_iload_4 (pc := 28) dX7_goldOf_28 ?_
      refine r_wm_ld_ore (pc := 30) hk (by omega) dX7_goldOf_30 ?_
      refine r_goto (pc := 31) 35 dX7_goldOf_31 (by decide) ?_
      refine r_iadd (pc := 35) dX7_goldOf_35 ?_
      refine r_istore_3 (pc := 36) dX7_goldOf_36 rfl (by decide) ?_
      refine r_inc_4 (pc := 37) dX7_goldOf_37 rfl (by decide) ?_
      refine r_goto (pc := 40) 5 dX7_goldOf_40 (by decide) ?_
      exact (ih (j + 1) (by omega)).L (by rw [gsum, isum, if_pos ((kb_s x (by omega)).mp c20)] <;> rfl)
theorem ct_X7_goldOf {h : Wd} {k : Nat} {c : Mod} {x : Int64} (hk : k + 24 < 76) : Ct mX7_goldOf [.ref k, .long x] (wm h k c) (some (.int (gsum (wm_ore c) x 64))) (wm h k c) := by
  refine Ct.of (Z := List.replicate 2 .null) (by decide) (Nat.le_of_ble_eq_true rfl) (fun z hz => List.eq_of_mem_replicate hz) ?_
  show WW mX7_goldOf 0 [.ref k, .long x, .null, .null, .null] [] _ _ _
  refine r_iconst (pc := 0) 0 dX7_goldOf_0 (by decide) ?_
  refine r_istore_3 (pc := 1) dX7_goldOf_1 rfl (by decide) ?_
  refine r_iconst (pc := 2) 0 dX7_goldOf_2 (by decide) ?_
  refine r_istore_4 (pc := 3) dX7_goldOf_3 rfl (by decide) ?_
  exact lp_X7_goldOf hk 64 0 rfl
theorem ct_X7_halves {h : Wd} {k a b : Nat} {c : Mod} (hk : k + 24 < 76) (ha : a < 6) (hb : b < 6) : Ct mX7_halves [.ref k, .int (nI a), .int (nI b)] (wm h k c) (some (.int (twS (wm_ore c) (wm_knows c) a b))) (wm h k c) := by
  refine Ct.of (Z := List.replicate 0 .null) (by decide) (Nat.le_of_ble_eq_true rfl) (fun z hz => List.eq_of_mem_replicate hz) ?_
  show WW mX7_halves 0 [.ref k, .int (nI a), .int (nI b)] [] _ _ _
  refine r_iload_1 (pc := 0) dX7_halves_0 ?_
  refine r_iload_2 (pc := 1) dX7_halves_1 ?_
  refine r_icmp_ne (pc := 2) 20 dX7_halves_2 (by decide) (fun c2 => ?_) (fun c2 => ?_)
  · refine r_aload_0 (pc := 20) dX7_halves_20 ?_
    refine r_aload_0 (pc := 21) dX7_halves_21 ?_
    refine r_wm_get_knows (pc := 22) hk fl_X7_19 dX7_halves_22 ?_
    refine r_iload_1 (pc := 25) dX7_halves_25 ?_
    refine r_wm_ld_knows (pc := 26) hk (by omega) dX7_halves_26 ?_
    refine r_aload_0 (pc := 27) dX7_halves_27 ?_
    refine r_wm_get_knows (pc := 28) hk fl_X7_19 dX7_halves_28 ?_
    refine r_iload_2 (pc := 31) dX7_halves_31 ?_
    refine r_wm_ld_knows (pc := 32) hk (by omega) dX7_halves_32 ?_
    refine r_lor (pc := 33) dX7_halves_33 ?_
    refine r_cV1_1 (pc := 34) (ct_X7_goldOf hk) cv_X7_goldOf ⟨Nat.le_of_ble_eq_true rfl, Nat.le_of_ble_eq_true rfl⟩ ml_X7_254 dX7_halves_34 (by omega) (wm_o _ _ _) rfl rfl (Nat.le_of_ble_eq_true rfl) ?_
    refine r_iret (pc := 37) dX7_halves_37 rfl (by rw [twS, if_neg (fun z => c2 ((nI_eq (by omega) (by omega)).mpr z))]) rfl
  · refine r_iconst (pc := 5) 2 dX7_halves_5 (by decide) ?_
    refine r_aload_0 (pc := 6) dX7_halves_6 ?_
    refine r_aload_0 (pc := 7) dX7_halves_7 ?_
    refine r_wm_get_knows (pc := 8) hk fl_X7_19 dX7_halves_8 ?_
    refine r_iload_1 (pc := 11) dX7_halves_11 ?_
    refine r_wm_ld_knows (pc := 12) hk (by omega) dX7_halves_12 ?_
    refine r_cV1_1 (pc := 13) (ct_X7_goldOf hk) cv_X7_goldOf ⟨Nat.le_of_ble_eq_true rfl, Nat.le_of_ble_eq_true rfl⟩ ml_X7_254 dX7_halves_13 (by omega) (wm_o _ _ _) rfl rfl (Nat.le_of_ble_eq_true rfl) ?_
    refine r_imul (pc := 16) dX7_halves_16 ?_
    refine r_goto (pc := 17) 37 dX7_halves_17 (by decide) ?_
    refine r_iret (pc := 37) dX7_halves_37 rfl (by rw [twS, if_pos ((nI_eq (by omega) (by omega)).mp c2)]) rfl
/-- what is left of a number behind n digits, and the n-th digit from the right -/
def lfD (x : Int32) : Nat → Int32
  | 0 => x
  | n + 1 => lfD x n / 10
def dgD (x : Int32) (n : Nat) : Int32 := lfD x n - lfD x n / 10 * 10
def wth (f : Nat → Int32) (x : Int32) : Nat → Nat → Int32
  | 0 => f
  | n + 1 => upd (wth f x n) (5 - n) (dgD x n)
theorem wth_at {f : Nat → Int32} {x : Int32} {m : Nat} (hm : m < 6) : ∀ n, 5 - m < n → n ≤ 6 → wth f x n m = dgD x (5 - m)
  | n + 1, h, h6 => by
    rw [wth]
    by_cases e : m = 5 - n
    · rw [show 5 - m = n by omega, ← e]; exact pk_us
    · rw [pk_un e]; exact wth_at hm n (by omega) (by omega)
theorem with_with (c : Mod) (A B : Nat → Int32) : wm_s_with (wm_s_with c A) B = wm_s_with c B := Prod.ext (bx_uu _ _ _ _) rfl
theorem with_get (c : Mod) (A : Nat → Int32) : wm_with (wm_s_with c A) = A := by
  show va_up c.1 16 A 16 = A
  exact va_up_self _ _ _
def g1B (x : Int32) : Nat → Bool
  | 0 => inR x 0 999999
  | n + 1 => g1B x n && isM (dgD x n)
theorem lp_X7_two1 {h : Wd} {k : Nat} {c : Mod} {x : Int32} {r : Option Value} {h' : Wd} (hk : k + 24 < 76) (k1 : WW mX7_areTwos 70 [.ref k, .int x, .int (lfD x 6), .int (bI (g1B x 6)), .int (-1)] [] (wm h k (wm_s_with c (wth (wm_with c) x 6))) r h') : ∀ q i, i + q = 6 → WW mX7_areTwos 15 [.ref k, .int x, .int (lfD x i), .int (bI (g1B x i)), .int (nI q - 1)] [] (wm h k (wm_s_with c (wth (wm_with c) x i))) r h' := by
  intro q
  induction q with
  | zero =>
    intro i hi
    obtain rfl : i = 6 := by omega
    refine r_iload_4 (pc := 15) dX7_areTwos_15 ?_
    refine r_if_lt (pc := 17) 70 dX7_areTwos_17 (by decide) (fun _ => ?_) (fun c17 => absurd (by decide) (c17))
    exact k1
  | succ q ih =>
    intro i hi
    have eq : nI (q + 1) - 1 = nI q := nI_pred q
    have e5 : 5 - i = q := by omega
    have go : ∀ b : Int32, b = bI (g1B x (i + 1)) → WW mX7_areTwos 15 [.ref k, .int x, .int (lfD x i / 10), .int b, .int (nI q + (-1))] [] (wm h k (wm_s_with (wm_s_with c (wth (wm_with c) x i)) (upd (wm_with (wm_s_with c (wth (wm_with c) x i))) q (dgD x i)))) r h' := fun b eb => ((ih (i + 1) (by omega)).L (by rw [eb, Int32.sub_eq_add_neg]; rfl)).w (by rw [wth, e5, with_with, with_get])
    clear ih
    rw [eq]
    have eu : wm_with (wm_s_with (wm_s_with c (wth (wm_with c) x i)) (upd (wm_with (wm_s_with c (wth (wm_with c) x i))) q (dgD x i))) q = dgD x i := pk_us
    refine r_iload_4 (pc := 15) dX7_areTwos_15 ?_
    refine r_if_lt (pc := 17) 70 dX7_areTwos_17 (by decide) (fun c17 => absurd c17 (nI_pos (by omega))) (fun _ => ?_)
    refine r_aload_0 (pc := 20) dX7_areTwos_20 ?_
    refine r_wm_get_with (pc := 21) hk fl_X7_65 dX7_areTwos_21 ?_
    refine r_iload_4 (pc := 24) dX7_areTwos_24 ?_
    refine r_iload_2 (pc := 26) dX7_areTwos_26 ?_
    refine r_bipush (pc := 27) 10 dX7_areTwos_27 (by decide) ?_
    refine r_irem (pc := 29) dX7_areTwos_29 (by decide) ?_
    refine r_wm_st_with (pc := 30) hk (by omega) dX7_areTwos_30 ?_
    refine r_iload_2 (pc := 31) dX7_areTwos_31 ?_
    refine r_bipush (pc := 32) 10 dX7_areTwos_32 (by decide) ?_
    refine r_idiv (pc := 34) dX7_areTwos_34 (by decide) ?_
    refine r_istore_2 (pc := 35) dX7_areTwos_35 rfl (by decide) ?_
    refine r_iload_3 (pc := 36) dX7_areTwos_36 ?_
    refine r_if_eq (pc := 37) 62 dX7_areTwos_37 (by decide) (fun c37 => ?_) (fun c37 => ?_)
    · rw [bI_0] at c37
      refine r_iconst (pc := 62) 0 dX7_areTwos_62 (by decide) ?_
      refine r_istore_3 (pc := 63) dX7_areTwos_63 rfl (by decide) ?_
      refine r_iinc_4 (pc := 64) (-1) dX7_areTwos_64 (by decide) rfl (by decide) ?_
      refine r_goto (pc := 67) 15 dX7_areTwos_67 (by decide) ?_
      exact go 0 (by rw [g1B, c37]; rfl)
    · rw [bI_n0] at c37
      refine r_aload_0 (pc := 40) dX7_areTwos_40 ?_
      refine r_wm_get_with (pc := 41) hk fl_X7_65 dX7_areTwos_41 ?_
      refine r_iload_4 (pc := 44) dX7_areTwos_44 ?_
      refine r_wm_ld_with (pc := 46) hk (by omega) dX7_areTwos_46 ?_
      rw [show wm_with (wm_s_with (wm_s_with c (wth (wm_with c) x i)) (upd (wm_with (wm_s_with c (wth (wm_with c) x i))) q (lfD x i - lfD x i / 10 * 10))) q = dgD x i from eu]
      refine r_i2l (pc := 47) dX7_areTwos_47 ?_
      refine r_lconst (pc := 48) 0 dX7_areTwos_48 (by decide) ?_
      refine r_ldc2 (pc := 49) dX7_areTwos_49 kl_X7_90 ?_
      refine r_cS1_3 (pc := 52) (ct_X7_inI (lo := 0) (hi := 5) (by decide) (by decide)) cs_X7_in ⟨Nat.le_of_ble_eq_true rfl, Nat.le_of_ble_eq_true rfl⟩ ml_X7_86 dX7_areTwos_52 rfl (Nat.le_of_ble_eq_true rfl) ?_
      refine r_if_eq (pc := 55) 62 dX7_areTwos_55 (by decide) (fun c55 => ?_) (fun c55 => ?_)
      · rw [isM_R, bI_0] at c55
        refine r_iconst (pc := 62) 0 dX7_areTwos_62 (by decide) ?_
        refine r_istore_3 (pc := 63) dX7_areTwos_63 rfl (by decide) ?_
        refine r_iinc_4 (pc := 64) (-1) dX7_areTwos_64 (by decide) rfl (by decide) ?_
        refine r_goto (pc := 67) 15 dX7_areTwos_67 (by decide) ?_
        exact go 0 (by rw [g1B, c37, c55]; rfl)
      · rw [isM_R, bI_n0] at c55
        refine r_iconst (pc := 58) 1 dX7_areTwos_58 (by decide) ?_
        refine r_goto (pc := 59) 63 dX7_areTwos_59 (by decide) ?_
        refine r_istore_3 (pc := 63) dX7_areTwos_63 rfl (by decide) ?_
        refine r_iinc_4 (pc := 64) (-1) dX7_areTwos_64 (by decide) rfl (by decide) ?_
        refine r_goto (pc := 67) 15 dX7_areTwos_67 (by decide) ?_
        exact go 1 (by rw [g1B, c37, c55]; rfl)
def g2B (w : Nat → Int32) (men : Int32) : Nat → Nat → Bool
  | _, 0 => true
  | m, r + 1 => decide (w (w m).toNatClampNeg = nI m) && (bt men m || decide (w m = nI m)) && g2B w men (m + 1) r
theorem lp_X7_two2 {h : Wd} {k : Nat} {c : Mod} {x y : Int32} (hk : k + 24 < 76) (hd : ∀ m, m < 6 → ∃ d, d < 6 ∧ wm_with c m = nI d) : ∀ r m, m + r = 6 → WW mX7_areTwos 73 [.ref k, .int x, .int y, .int 1, .int (nI m)] [] (wm h k c) (some (.int (bI (g2B (wm_with c) (wm_men c) m r)))) (wm h k c) := by
  intro r
  induction r with
  | zero =>
    intro m hm
    obtain rfl : m = 6 := by omega
    refine r_iload_4 (pc := 73) dX7_areTwos_73 ?_
    refine r_bipush (pc := 75) 6 dX7_areTwos_75 (by decide) ?_
    refine r_icmp_ge (pc := 77) 134 dX7_areTwos_77 (by decide) (fun _ => ?_) (fun c77 => absurd (nI_le (a := 6) (b := 6) (by omega) (by omega)) (c77))
    refine r_iload_3 (pc := 134) dX7_areTwos_134 ?_
    refine r_zret (pc := 135) dX7_areTwos_135 rfl (by first | rfl | exact bI_nar _) (by first | rfl | simp_all [bI]) rfl
  | succ r ih =>
    intro m hm
    obtain ⟨d, hd6, ed⟩ := hd m (by omega)
    have en : (nI d).toNatClampNeg = d := ci hd6 (by decide)
    have bad : (decide (wm_with c d = nI m) && (bt (wm_men c) m || decide (nI d = nI m))) = false → WW mX7_areTwos 73 [.ref k, .int x, .int y, .int 0, .int (nI (m + 1))] [] (wm h k c) (some (.int (bI (g2B (wm_with c) (wm_men c) m (r + 1))))) (wm h k c) := by
      intro e
      by_cases h6 : m + 1 = 6
      · rw [h6]
        refine r_iload_4 (pc := 73) dX7_areTwos_73 ?_
        refine r_bipush (pc := 75) 6 dX7_areTwos_75 (by decide) ?_
        refine r_icmp_ge (pc := 77) 134 dX7_areTwos_77 (by decide) (fun _ => ?_) (fun c77 => absurd (nI_le (a := 6) (b := 6) (by omega) (by omega)) (c77))
        refine r_iload_3 (pc := 134) dX7_areTwos_134 ?_
        refine r_zret (pc := 135) dX7_areTwos_135 rfl (by first | rfl | exact bI_nar _) (by rw [g2B, ed, en, e]; rfl) rfl
      · skip
        refine r_iload_4 (pc := 73) dX7_areTwos_73 ?_
        refine r_bipush (pc := 75) 6 dX7_areTwos_75 (by decide) ?_
        refine r_icmp_ge (pc := 77) 134 dX7_areTwos_77 (by decide) (fun c77 => absurd c77 (nI_ge (a := m + 1) (b := 6) (by omega) (by decide))) (fun _ => ?_)
        refine r_iload_3 (pc := 80) dX7_areTwos_80 ?_
        refine r_if_eq (pc := 81) 134 dX7_areTwos_81 (by decide) (fun _ => ?_) (fun c81 => absurd (rfl) (c81))
        refine r_iload_3 (pc := 134) dX7_areTwos_134 ?_
        refine r_zret (pc := 135) dX7_areTwos_135 rfl (by first | rfl | exact bI_nar _) (by rw [g2B, ed, en, e]; rfl) rfl
    have good : (decide (wm_with c d = nI m) && (bt (wm_men c) m || decide (nI d = nI m))) = true → WW mX7_areTwos 73 [.ref k, .int x, .int y, .int 1, .int (nI (m + 1))] [] (wm h k c) (some (.int (bI (g2B (wm_with c) (wm_men c) m (r + 1))))) (wm h k c) := fun e => (ih (m + 1) (by omega)).r (by rw [g2B, ed, en, e, Bool.true_and])
    clear ih
    refine r_iload_4 (pc := 73) dX7_areTwos_73 ?_
    refine r_bipush (pc := 75) 6 dX7_areTwos_75 (by decide) ?_
    refine r_icmp_ge (pc := 77) 134 dX7_areTwos_77 (by decide) (fun c77 => absurd c77 (nI_ge (a := m) (b := 6) (by omega) (by decide))) (fun _ => ?_)
    refine r_iload_3 (pc := 80) dX7_areTwos_80 ?_
    refine r_if_eq (pc := 81) 134 dX7_areTwos_81 (by decide) (fun c81 => absurd c81 (by decide)) (fun _ => ?_)
    refine r_aload_0 (pc := 84) dX7_areTwos_84 ?_
    refine r_wm_get_with (pc := 85) hk fl_X7_65 dX7_areTwos_85 ?_
    refine r_aload_0 (pc := 88) dX7_areTwos_88 ?_
    refine r_wm_get_with (pc := 89) hk fl_X7_65 dX7_areTwos_89 ?_
    refine r_iload_4 (pc := 92) dX7_areTwos_92 ?_
    refine r_wm_ld_with (pc := 94) hk (by omega) dX7_areTwos_94 ?_
    rw [ed]
    refine r_wm_ld_with (pc := 95) hk (by omega) dX7_areTwos_95 ?_
    refine r_iload_4 (pc := 96) dX7_areTwos_96 ?_
    refine r_icmp_ne (pc := 98) 126 dX7_areTwos_98 (by decide) (fun c98 => ?_) (fun c98 => ?_)
    · refine r_iconst (pc := 126) 0 dX7_areTwos_126 (by decide) ?_
      refine r_istore_3 (pc := 127) dX7_areTwos_127 rfl (by decide) ?_
      refine r_inc_4 (pc := 128) dX7_areTwos_128 rfl (by decide) ?_
      refine r_goto (pc := 131) 73 dX7_areTwos_131 (by decide) ?_
      exact bad (by rw [decide_eq_false c98, Bool.false_and])
    · refine r_aload_0 (pc := 101) dX7_areTwos_101 ?_
      refine r_iload_4 (pc := 102) dX7_areTwos_102 ?_
      refine r_cV1_1 (pc := 104) (ct_X7_isMan hk) cv_X7_isMan ⟨Nat.le_of_ble_eq_true rfl, Nat.le_of_ble_eq_true rfl⟩ ml_X7_106 dX7_areTwos_104 (by omega) (wm_o _ _ _) rfl rfl (Nat.le_of_ble_eq_true rfl) ?_
      refine r_if_ne (pc := 107) 122 dX7_areTwos_107 (by decide) (fun c107 => ?_) (fun c107 => ?_)
      · rw [hasB_n (by omega), bI_n0] at c107
        refine r_iconst (pc := 122) 1 dX7_areTwos_122 (by decide) ?_
        refine r_goto (pc := 123) 127 dX7_areTwos_123 (by decide) ?_
        refine r_istore_3 (pc := 127) dX7_areTwos_127 rfl (by decide) ?_
        refine r_inc_4 (pc := 128) dX7_areTwos_128 rfl (by decide) ?_
        refine r_goto (pc := 131) 73 dX7_areTwos_131 (by decide) ?_
        exact good (by rw [decide_eq_true c98, c107]; rfl)
      · rw [hasB_n (by omega), bI_0] at c107
        refine r_aload_0 (pc := 110) dX7_areTwos_110 ?_
        refine r_wm_get_with (pc := 111) hk fl_X7_65 dX7_areTwos_111 ?_
        refine r_iload_4 (pc := 114) dX7_areTwos_114 ?_
        refine r_wm_ld_with (pc := 116) hk (by omega) dX7_areTwos_116 ?_
        rw [ed]
        refine r_iload_4 (pc := 117) dX7_areTwos_117 ?_
        refine r_icmp_ne (pc := 119) 126 dX7_areTwos_119 (by decide) (fun c119 => ?_) (fun c119 => ?_)
        · refine r_iconst (pc := 126) 0 dX7_areTwos_126 (by decide) ?_
          refine r_istore_3 (pc := 127) dX7_areTwos_127 rfl (by decide) ?_
          refine r_inc_4 (pc := 128) dX7_areTwos_128 rfl (by decide) ?_
          refine r_goto (pc := 131) 73 dX7_areTwos_131 (by decide) ?_
          exact bad (by rw [c107, decide_eq_false c119, Bool.or_false, Bool.and_false])
        · refine r_iconst (pc := 122) 1 dX7_areTwos_122 (by decide) ?_
          refine r_goto (pc := 123) 127 dX7_areTwos_123 (by decide) ?_
          refine r_istore_3 (pc := 127) dX7_areTwos_127 rfl (by decide) ?_
          refine r_inc_4 (pc := 128) dX7_areTwos_128 rfl (by decide) ?_
          refine r_goto (pc := 131) 73 dX7_areTwos_131 (by decide) ?_
          exact good (by rw [decide_eq_true c98, decide_eq_true c119, Bool.or_true]; rfl)
def g3B (x : Int32) (men : Int32) (f : Nat → Int32) : Bool := g1B x 6 && g2B (wth f x 6) men 0 6
theorem g1B_m {x : Int32} : ∀ n, g1B x n = true → ∀ i, i < n → isM (dgD x i) = true
  | n + 1, h, i, hi => by
    rw [g1B, Bool.and_eq_true] at h
    by_cases e : i = n
    · rw [e]; exact h.2
    · exact g1B_m n h.1 i (by omega)
theorem wth_dig {f : Nat → Int32} {x : Int32} (h : g1B x 6 = true) {m : Nat} (hm : m < 6) : ∃ d, d < 6 ∧ wth f x 6 m = nI d := by
  rw [wth_at hm 6 (by omega) (Nat.le_refl _)]
  exact isM_t (g1B_m 6 h (5 - m) (by omega))
theorem ct_X7_areTwos {h : Wd} {k : Nat} {c : Mod} {x : Int32} (hk : k + 24 < 76) : Ct mX7_areTwos [.ref k, .int x] (wm h k c) (some (.int (bI (g3B x (wm_men c) (wm_with c))))) (wm h k (wm_s_with c (wth (wm_with c) x 6))) := by
  refine Ct.of (Z := List.replicate 3 .null) (by decide) (Nat.le_of_ble_eq_true rfl) (fun z hz => List.eq_of_mem_replicate hz) ?_
  show WW mX7_areTwos 0 [.ref k, .int x, .null, .null, .null] [] _ _ _
  refine r_iload_1 (pc := 0) dX7_areTwos_0 ?_
  refine r_istore_2 (pc := 1) dX7_areTwos_1 rfl (by decide) ?_
  refine r_iload_1 (pc := 2) dX7_areTwos_2 ?_
  refine r_i2l (pc := 3) dX7_areTwos_3 ?_
  refine r_lconst (pc := 4) 0 dX7_areTwos_4 (by decide) ?_
  refine r_ldc2 (pc := 5) dX7_areTwos_5 kl_X7_252 ?_
  refine r_cS1_3 (pc := 8) (ct_X7_inI (lo := 0) (hi := 999999) (by decide) (by decide)) cs_X7_in ⟨Nat.le_of_ble_eq_true rfl, Nat.le_of_ble_eq_true rfl⟩ ml_X7_86 dX7_areTwos_8 rfl (Nat.le_of_ble_eq_true rfl) ?_
  refine r_istore_3 (pc := 11) dX7_areTwos_11 rfl (by decide) ?_
  refine r_iconst (pc := 12) 5 dX7_areTwos_12 (by decide) ?_
  refine r_istore_4 (pc := 13) dX7_areTwos_13 rfl (by decide) ?_
  refine (lp_X7_two1 (x := x) (c := c) hk ?_ 6 0 rfl).w (congrArg (wm h k) (Prod.ext (va_up_id _ 16).symm rfl))
  by_cases hg : g1B x 6 = true
  · rw [hg]
    refine r_iconst (pc := 70) 0 dX7_areTwos_70 (by decide) ?_
    refine r_istore_4 (pc := 71) dX7_areTwos_71 rfl (by decide) ?_
    exact (lp_X7_two2 (c := wm_s_with c (wth (wm_with c) x 6)) hk (fun m hm => wth_dig hg hm) 6 0 rfl).r (by rw [g3B, hg, Bool.true_and]; rfl)
  · have hg2 : g1B x 6 = false := by simpa using hg
    rw [hg2]
    refine r_iconst (pc := 70) 0 dX7_areTwos_70 (by decide) ?_
    refine r_istore_4 (pc := 71) dX7_areTwos_71 rfl (by decide) ?_
    refine r_iload_4 (pc := 73) dX7_areTwos_73 ?_
    refine r_bipush (pc := 75) 6 dX7_areTwos_75 (by decide) ?_
    refine r_icmp_ge (pc := 77) 134 dX7_areTwos_77 (by decide) (fun c77 => absurd c77 (by decide)) (fun _ => ?_)
    refine r_iload_3 (pc := 80) dX7_areTwos_80 ?_
    refine r_if_eq (pc := 81) 134 dX7_areTwos_81 (by decide) (fun _ => ?_) (fun c81 => absurd (rfl) (c81))
    refine r_iload_3 (pc := 134) dX7_areTwos_134 ?_
    refine r_zret (pc := 135) dX7_areTwos_135 rfl (by first | rfl | exact bI_nar _) (by rw [g3B, hg2]; rfl) rfl
/-- whether two who are not together would each have more so -/
def wdL (g : Nat → Int32) (kn : Nat → Int64) (men : Int32) (w : Nat → Int32) (a b : Nat) : Bool := (bt men a && bt men b && !decide (w a = nI b)) && (decide (twS g kn a (w a).toNatClampNeg < twS g kn a b) && decide (twS g kn b (w b).toNatClampNeg < twS g kn a b))
theorem ct_X7_wouldLeave {h : Wd} {k a b : Nat} {c : Mod} (hk : k + 24 < 76) (ha : a < 6) (hb : b < 6) (hd : ∀ m, m < 6 → ∃ d, d < 6 ∧ wm_with c m = nI d) : Ct mX7_wouldLeave [.ref k, .int (nI a), .int (nI b)] (wm h k c) (some (.int (bI (wdL (wm_ore c) (wm_knows c) (wm_men c) (wm_with c) a b)))) (wm h k c) := by
  obtain ⟨da, hda, ea⟩ := hd a ha
  obtain ⟨db, hdb, eb⟩ := hd b hb
  have na : (nI da).toNatClampNeg = da := ci hda (by decide)
  have nb : (nI db).toNatClampNeg = db := ci hdb (by decide)
  refine Ct.of (Z := List.replicate 2 .null) (by decide) (Nat.le_of_ble_eq_true rfl) (fun z hz => List.eq_of_mem_replicate hz) ?_
  show WW mX7_wouldLeave 0 [.ref k, .int (nI a), .int (nI b), .null, .null] [] _ _ _
  refine r_aload_0 (pc := 0) dX7_wouldLeave_0 ?_
  refine r_iload_1 (pc := 1) dX7_wouldLeave_1 ?_
  refine r_cV1_1 (pc := 2) (ct_X7_isMan hk) cv_X7_isMan ⟨Nat.le_of_ble_eq_true rfl, Nat.le_of_ble_eq_true rfl⟩ ml_X7_106 dX7_wouldLeave_2 (by omega) (wm_o _ _ _) rfl rfl (Nat.le_of_ble_eq_true rfl) ?_
  refine r_if_eq (pc := 5) 30 dX7_wouldLeave_5 (by decide) (fun c5 => ?_) (fun c5 => ?_)
  · rw [hasB_n ha, bI_0] at c5
    refine r_iconst (pc := 30) 0 dX7_wouldLeave_30 (by decide) ?_
    refine r_istore_3 (pc := 31) dX7_wouldLeave_31 rfl (by decide) ?_
    refine r_iload_3 (pc := 32) dX7_wouldLeave_32 ?_
    refine r_if_eq (pc := 33) 45 dX7_wouldLeave_33 (by decide) (fun _ => ?_) (fun c33 => absurd (rfl) (c33))
    refine r_iconst (pc := 45) 0 dX7_wouldLeave_45 (by decide) ?_
    refine r_istore_4 (pc := 46) dX7_wouldLeave_46 rfl (by decide) ?_
    refine r_iload_3 (pc := 48) dX7_wouldLeave_48 ?_
    refine r_if_eq (pc := 49) 88 dX7_wouldLeave_49 (by decide) (fun _ => ?_) (fun c49 => absurd (rfl) (c49))
    refine r_iconst (pc := 88) 0 dX7_wouldLeave_88 (by decide) ?_
    refine r_zret (pc := 89) dX7_wouldLeave_89 rfl (by first | rfl | exact bI_nar _) (by simp [wdL, c5, bI]) rfl
  · rw [hasB_n ha, bI_n0] at c5
    refine r_aload_0 (pc := 8) dX7_wouldLeave_8 ?_
    refine r_iload_2 (pc := 9) dX7_wouldLeave_9 ?_
    refine r_cV1_1 (pc := 10) (ct_X7_isMan hk) cv_X7_isMan ⟨Nat.le_of_ble_eq_true rfl, Nat.le_of_ble_eq_true rfl⟩ ml_X7_106 dX7_wouldLeave_10 (by omega) (wm_o _ _ _) rfl rfl (Nat.le_of_ble_eq_true rfl) ?_
    refine r_if_eq (pc := 13) 30 dX7_wouldLeave_13 (by decide) (fun c13 => ?_) (fun c13 => ?_)
    · rw [hasB_n hb, bI_0] at c13
      refine r_iconst (pc := 30) 0 dX7_wouldLeave_30 (by decide) ?_
      refine r_istore_3 (pc := 31) dX7_wouldLeave_31 rfl (by decide) ?_
      refine r_iload_3 (pc := 32) dX7_wouldLeave_32 ?_
      refine r_if_eq (pc := 33) 45 dX7_wouldLeave_33 (by decide) (fun _ => ?_) (fun c33 => absurd (rfl) (c33))
      refine r_iconst (pc := 45) 0 dX7_wouldLeave_45 (by decide) ?_
      refine r_istore_4 (pc := 46) dX7_wouldLeave_46 rfl (by decide) ?_
      refine r_iload_3 (pc := 48) dX7_wouldLeave_48 ?_
      refine r_if_eq (pc := 49) 88 dX7_wouldLeave_49 (by decide) (fun _ => ?_) (fun c49 => absurd (rfl) (c49))
      refine r_iconst (pc := 88) 0 dX7_wouldLeave_88 (by decide) ?_
      refine r_zret (pc := 89) dX7_wouldLeave_89 rfl (by first | rfl | exact bI_nar _) (by simp [wdL, c13, bI]) rfl
    · rw [hasB_n hb, bI_n0] at c13
      refine r_aload_0 (pc := 16) dX7_wouldLeave_16 ?_
      refine r_wm_get_with (pc := 17) hk fl_X7_65 dX7_wouldLeave_17 ?_
      refine r_iload_1 (pc := 20) dX7_wouldLeave_20 ?_
      refine r_wm_ld_with (pc := 21) hk (by omega) dX7_wouldLeave_21 ?_
      refine r_iload_2 (pc := 22) dX7_wouldLeave_22 ?_
      refine r_icmp_eq (pc := 23) 30 dX7_wouldLeave_23 (by decide) (fun c23 => ?_) (fun c23 => ?_)
      · refine r_iconst (pc := 30) 0 dX7_wouldLeave_30 (by decide) ?_
        refine r_istore_3 (pc := 31) dX7_wouldLeave_31 rfl (by decide) ?_
        refine r_iload_3 (pc := 32) dX7_wouldLeave_32 ?_
        refine r_if_eq (pc := 33) 45 dX7_wouldLeave_33 (by decide) (fun _ => ?_) (fun c33 => absurd (rfl) (c33))
        refine r_iconst (pc := 45) 0 dX7_wouldLeave_45 (by decide) ?_
        refine r_istore_4 (pc := 46) dX7_wouldLeave_46 rfl (by decide) ?_
        refine r_iload_3 (pc := 48) dX7_wouldLeave_48 ?_
        refine r_if_eq (pc := 49) 88 dX7_wouldLeave_49 (by decide) (fun _ => ?_) (fun c49 => absurd (rfl) (c49))
        refine r_iconst (pc := 88) 0 dX7_wouldLeave_88 (by decide) ?_
        refine r_zret (pc := 89) dX7_wouldLeave_89 rfl (by first | rfl | exact bI_nar _) (by simp [wdL, c23, bI]) rfl
      · refine r_iconst (pc := 26) 1 dX7_wouldLeave_26 (by decide) ?_
        refine r_goto (pc := 27) 31 dX7_wouldLeave_27 (by decide) ?_
        refine r_istore_3 (pc := 31) dX7_wouldLeave_31 rfl (by decide) ?_
        refine r_iload_3 (pc := 32) dX7_wouldLeave_32 ?_
        refine r_if_eq (pc := 33) 45 dX7_wouldLeave_33 (by decide) (fun c33 => absurd c33 (by decide)) (fun _ => ?_)
        refine r_aload_0 (pc := 36) dX7_wouldLeave_36 ?_
        refine r_iload_1 (pc := 37) dX7_wouldLeave_37 ?_
        refine r_iload_2 (pc := 38) dX7_wouldLeave_38 ?_
        refine r_cV1_2 (pc := 39) (ct_X7_halves hk ha hb) cv_X7_halves ⟨Nat.le_of_ble_eq_true rfl, Nat.le_of_ble_eq_true rfl⟩ ml_X7_258 dX7_wouldLeave_39 (by omega) (wm_o _ _ _) rfl rfl (Nat.le_of_ble_eq_true rfl) ?_
        refine r_goto (pc := 42) 46 dX7_wouldLeave_42 (by decide) ?_
        refine r_istore_4 (pc := 46) dX7_wouldLeave_46 rfl (by decide) ?_
        refine r_iload_3 (pc := 48) dX7_wouldLeave_48 ?_
        refine r_if_eq (pc := 49) 88 dX7_wouldLeave_49 (by decide) (fun c49 => absurd c49 (by decide)) (fun _ => ?_)
        refine r_iload_4 (pc := 52) dX7_wouldLeave_52 ?_
        refine r_aload_0 (pc := 54) dX7_wouldLeave_54 ?_
        refine r_iload_1 (pc := 55) dX7_wouldLeave_55 ?_
        refine r_aload_0 (pc := 56) dX7_wouldLeave_56 ?_
        refine r_wm_get_with (pc := 57) hk fl_X7_65 dX7_wouldLeave_57 ?_
        refine r_iload_1 (pc := 60) dX7_wouldLeave_60 ?_
        refine r_wm_ld_with (pc := 61) hk (by omega) dX7_wouldLeave_61 ?_
        rw [ea]
        refine r_cV1_2 (pc := 62) (ct_X7_halves hk ha hda) cv_X7_halves ⟨Nat.le_of_ble_eq_true rfl, Nat.le_of_ble_eq_true rfl⟩ ml_X7_258 dX7_wouldLeave_62 (by omega) (wm_o _ _ _) rfl rfl (Nat.le_of_ble_eq_true rfl) ?_
        refine r_icmp_le (pc := 65) 88 dX7_wouldLeave_65 (by decide) (fun c65 => ?_) (fun c65 => ?_)
        · refine r_iconst (pc := 88) 0 dX7_wouldLeave_88 (by decide) ?_
          refine r_zret (pc := 89) dX7_wouldLeave_89 rfl (by first | rfl | exact bI_nar _) (by have : ¬ twS (wm_ore c) (wm_knows c) a da < twS (wm_ore c) (wm_knows c) a b := Int32.not_lt.mpr c65; simp [wdL, ea, na, this, bI]) rfl
        · refine r_iload_4 (pc := 68) dX7_wouldLeave_68 ?_
          refine r_aload_0 (pc := 70) dX7_wouldLeave_70 ?_
          refine r_iload_2 (pc := 71) dX7_wouldLeave_71 ?_
          refine r_aload_0 (pc := 72) dX7_wouldLeave_72 ?_
          refine r_wm_get_with (pc := 73) hk fl_X7_65 dX7_wouldLeave_73 ?_
          refine r_iload_2 (pc := 76) dX7_wouldLeave_76 ?_
          refine r_wm_ld_with (pc := 77) hk (by omega) dX7_wouldLeave_77 ?_
          rw [eb]
          refine r_cV1_2 (pc := 78) (ct_X7_halves hk hb hdb) cv_X7_halves ⟨Nat.le_of_ble_eq_true rfl, Nat.le_of_ble_eq_true rfl⟩ ml_X7_258 dX7_wouldLeave_78 (by omega) (wm_o _ _ _) rfl rfl (Nat.le_of_ble_eq_true rfl) ?_
          refine r_icmp_le (pc := 81) 88 dX7_wouldLeave_81 (by decide) (fun c81 => ?_) (fun c81 => ?_)
          · refine r_iconst (pc := 88) 0 dX7_wouldLeave_88 (by decide) ?_
            refine r_zret (pc := 89) dX7_wouldLeave_89 rfl (by first | rfl | exact bI_nar _) (by have : ¬ twS (wm_ore c) (wm_knows c) b db < twS (wm_ore c) (wm_knows c) a b := Int32.not_lt.mpr c81; simp [wdL, eb, nb, this, bI]) rfl
          · refine r_iconst (pc := 84) 1 dX7_wouldLeave_84 (by decide) ?_
            refine r_goto (pc := 85) 89 dX7_wouldLeave_85 (by decide) ?_
            refine r_zret (pc := 89) dX7_wouldLeave_89 rfl (by first | rfl | exact bI_nar _) (by have h1 := i_nle c65; have h2 := i_nle c81; rw [ea] at c23; simp [wdL, ea, eb, na, nb, h1, h2, c5, c13, c23, bI]) rfl
/-- the least two, or one -/
def lv2 (P : Nat → Nat → Bool) (a : Nat) : Nat → Option Nat
  | 0 => none
  | r + 1 => if P a (6 - (r + 1)) then some (6 - (r + 1)) else lv2 P a r
def lv1 (P : Nat → Nat → Bool) : Nat → Int32
  | 0 => -6
  | r + 1 => match lv2 P (6 - (r + 1)) (r + 1) with
    | some b => 10 * nI (6 - (r + 1)) + nI b
    | none => lv1 P r
theorem lp_X7_lv2 {h : Wd} {k a : Nat} {c : Mod} {x R : Int32} (hk : k + 24 < 76) (ha : a < 6) (hd : ∀ m, m < 6 → ∃ d, d < 6 ∧ wm_with c m = nI d) : ∀ r b, b + r = 6 → (∀ d, lv2 (wdL (wm_ore c) (wm_knows c) (wm_men c) (wm_with c)) a r = some d → R = 10 * nI a + nI d) → (lv2 (wdL (wm_ore c) (wm_knows c) (wm_men c) (wm_with c)) a r = none → WW mX7_leaves 49 [.ref k, .int x, .int (nI a), .int (nI 6)] [] (wm h k c) (some (.int R)) (wm h k c)) → WW mX7_leaves 21 [.ref k, .int x, .int (nI a), .int (nI b)] [] (wm h k c) (some (.int R)) (wm h k c) := by
  intro r
  induction r with
  | zero =>
    intro b hb k1 k2
    obtain rfl : b = 6 := by omega
    refine r_iload_3 (pc := 21) dX7_leaves_21 ?_
    refine r_bipush (pc := 22) 6 dX7_leaves_22 (by decide) ?_
    refine r_icmp_ge (pc := 24) 49 dX7_leaves_24 (by decide) (fun _ => ?_) (fun c24 => absurd (nI_le (a := 6) (b := 6) (by omega) (by omega)) (c24))
    exact k2 rfl
  | succ r ih =>
    intro b hb k1 k2
    have eb : 6 - (r + 1) = b := by omega
    rw [lv2, eb] at k1 k2
    refine r_iload_3 (pc := 21) dX7_leaves_21 ?_
    refine r_bipush (pc := 22) 6 dX7_leaves_22 (by decide) ?_
    refine r_icmp_ge (pc := 24) 49 dX7_leaves_24 (by decide) (fun c24 => absurd c24 (nI_ge (a := b) (b := 6) (by omega) (by decide))) (fun _ => ?_)
    refine r_aload_0 (pc := 27) dX7_leaves_27 ?_
    refine r_iload_2 (pc := 28) dX7_leaves_28 ?_
    refine r_iload_3 (pc := 29) dX7_leaves_29 ?_
    refine r_cV1_2 (pc := 30) (ct_X7_wouldLeave hk ha (by omega) hd) cv_X7_wouldLeave ⟨Nat.le_of_ble_eq_true rfl, Nat.le_of_ble_eq_true rfl⟩ ml_X7_264 dX7_leaves_30 (by omega) (wm_o _ _ _) rfl rfl (Nat.le_of_ble_eq_true rfl) ?_
    refine r_if_eq (pc := 33) 43 dX7_leaves_33 (by decide) (fun c33 => ?_) (fun c33 => ?_)
    · rw [bI_0] at c33
      refine r_inc_3 (pc := 43) dX7_leaves_43 rfl (by decide) ?_
      refine r_goto (pc := 46) 21 dX7_leaves_46 (by decide) ?_
      exact ih (b + 1) (by omega) (fun d e => k1 d (by rw [c33]; exact e)) (fun e => k2 (by rw [c33]; exact e))
    · rw [bI_n0] at c33
      refine r_bipush (pc := 36) 10 dX7_leaves_36 (by decide) ?_
      refine r_iload_2 (pc := 38) dX7_leaves_38 ?_
      refine r_imul (pc := 39) dX7_leaves_39 ?_
      refine r_iload_3 (pc := 40) dX7_leaves_40 ?_
      refine r_iadd (pc := 41) dX7_leaves_41 ?_
      refine r_iret (pc := 42) dX7_leaves_42 rfl (by rw [k1 b (by rw [c33]; rfl)]) rfl
theorem lp_X7_lv1 {h : Wd} {k : Nat} {c : Mod} {x R : Int32} (hk : k + 24 < 76) (hd : ∀ m, m < 6 → ∃ d, d < 6 ∧ wm_with c m = nI d) : ∀ r a, a + r = 6 → R = lv1 (wdL (wm_ore c) (wm_knows c) (wm_men c) (wm_with c)) r → ∀ z, WW mX7_leaves 13 [.ref k, .int x, .int (nI a), z] [] (wm h k c) (some (.int R)) (wm h k c) := by
  intro r
  induction r with
  | zero =>
    intro a ha e z
    obtain rfl : a = 6 := by omega
    refine r_iload_2 (pc := 13) dX7_leaves_13 ?_
    refine r_bipush (pc := 14) 6 dX7_leaves_14 (by decide) ?_
    refine r_icmp_ge (pc := 16) 55 dX7_leaves_16 (by decide) (fun _ => ?_) (fun c16 => absurd (nI_le (a := 6) (b := 6) (by omega) (by omega)) (c16))
    refine r_bipush (pc := 55) (-6) dX7_leaves_55 (by decide) ?_
    refine r_iret (pc := 57) dX7_leaves_57 rfl (by rw [e]; rfl) rfl
  | succ r ih =>
    intro a ha e z
    have ea : 6 - (r + 1) = a := by omega
    rw [lv1, ea] at e
    refine r_iload_2 (pc := 13) dX7_leaves_13 ?_
    refine r_bipush (pc := 14) 6 dX7_leaves_14 (by decide) ?_
    refine r_icmp_ge (pc := 16) 55 dX7_leaves_16 (by decide) (fun c16 => absurd c16 (nI_ge (a := a) (b := 6) (by omega) (by decide))) (fun _ => ?_)
    refine r_iload_2 (pc := 19) dX7_leaves_19 ?_
    refine r_istore_3 (pc := 20) dX7_leaves_20 rfl (by decide) ?_
    refine lp_X7_lv2 hk (by omega) hd (r + 1) a ha (fun d ed => by rw [e, ed]) (fun en => ?_)
    rw [en] at e
    refine r_inc_2 (pc := 49) dX7_leaves_49 rfl (by decide) ?_
    refine r_goto (pc := 52) 13 dX7_leaves_52 (by decide) ?_
    exact ih (a + 1) (by omega) e _
theorem ct_X7_leavesB {h : Wd} {k : Nat} {c : Mod} {x : Int32} (hk : k + 24 < 76) (hb : g3B x (wm_men c) (wm_with c) = false) : Ct mX7_leaves [.ref k, .int x] (wm h k c) (some (.int (-2))) (wm h k (wm_s_with c (wth (wm_with c) x 6))) := by
  refine Ct.of (Z := List.replicate 2 .null) (by decide) (Nat.le_of_ble_eq_true rfl) (fun z hz => List.eq_of_mem_replicate hz) ?_
  show WW mX7_leaves 0 [.ref k, .int x, .null, .null] [] _ _ _
  refine r_aload_0 (pc := 0) dX7_leaves_0 ?_
  refine r_iload_1 (pc := 1) dX7_leaves_1 ?_
  refine r_cV1_1 (pc := 2) (ct_X7_areTwos hk) cv_X7_areTwos ⟨Nat.le_of_ble_eq_true rfl, Nat.le_of_ble_eq_true rfl⟩ ml_X7_261 dX7_leaves_2 (by omega) (wm_o _ _ _) rfl rfl (Nat.le_of_ble_eq_true rfl) ?_
  refine r_if_ne (pc := 5) 11 dX7_leaves_5 (by decide) (fun c5 => absurd (by rw [hb]; rfl) c5) (fun _ => ?_)
  refine r_bipush (pc := 8) (-2) dX7_leaves_8 (by decide) ?_
  refine r_iret (pc := 10) dX7_leaves_10 rfl (by first | rfl | simp_all [bI]) rfl
theorem ct_X7_leaves {h : Wd} {k : Nat} {c : Mod} {x : Int32} (hk : k + 24 < 76) (hb : g3B x (wm_men c) (wm_with c) = true) : Ct mX7_leaves [.ref k, .int x] (wm h k c) (some (.int (lv1 (wdL (wm_ore c) (wm_knows c) (wm_men c) (wth (wm_with c) x 6)) 6))) (wm h k (wm_s_with c (wth (wm_with c) x 6))) := by
  have hg : g1B x 6 = true := by
    rw [g3B, Bool.and_eq_true] at hb
    exact hb.1
  refine Ct.of (Z := List.replicate 2 .null) (by decide) (Nat.le_of_ble_eq_true rfl) (fun z hz => List.eq_of_mem_replicate hz) ?_
  show WW mX7_leaves 0 [.ref k, .int x, .null, .null] [] _ _ _
  refine r_aload_0 (pc := 0) dX7_leaves_0 ?_
  refine r_iload_1 (pc := 1) dX7_leaves_1 ?_
  refine r_cV1_1 (pc := 2) (ct_X7_areTwos hk) cv_X7_areTwos ⟨Nat.le_of_ble_eq_true rfl, Nat.le_of_ble_eq_true rfl⟩ ml_X7_261 dX7_leaves_2 (by omega) (wm_o _ _ _) rfl rfl (Nat.le_of_ble_eq_true rfl) ?_
  refine r_if_ne (pc := 5) 11 dX7_leaves_5 (by decide) (fun _ => ?_) (fun c5 => absurd c5 (by rw [hb]; decide))
  refine r_iconst (pc := 11) 0 dX7_leaves_11 (by decide) ?_
  refine r_istore_2 (pc := 12) dX7_leaves_12 rfl (by decide) ?_
  exact lp_X7_lv1 (c := wm_s_with c (wth (wm_with c) x 6)) hk (fun m hm => wth_dig hg hm) 6 0 rfl rfl _
