/-! THE REFERENCE: odds, next -/
theorem lp_X7_lowest {h : Wd} {u v : Nat} {part : Int32} (hu : u < 2 ^ 62) (hv : v < 2 ^ 62) (h0 : 0 < v) : ∀ n a b, b ≤ n → 0 < a → a < 2 ^ 62 → b < 2 ^ 62 → Nat.gcd a b = Nat.gcd v u → ∀ z1 z2, WW mX7_lowest 6 [.long (lN u), .null, .long (lN v), .null, .int part, .long (lN a), .null, .long (lN b), .null, z1, z2] [] h (some (.long (if part = 0 then lN (u / Nat.gcd v u) else lN (v / Nat.gcd v u)))) h := by
  intro n
  have g0 : 0 < Nat.gcd v u := Nat.gcd_pos_of_pos_left _ h0
  have gl : Nat.gcd v u < 2 ^ 62 := Nat.lt_of_le_of_lt (Nat.gcd_le_left _ h0) hv
  have ng : ¬ lN (Nat.gcd v u) = 0 := fun z => by
    have := (pk_lEQ (a := Nat.gcd v u) (b := 0) (by omega) (by decide)).mp z
    omega
  induction n with
  | zero =>
    intro a b hb ha ha2 hb2 hg z1 z2
    obtain rfl : b = 0 := Nat.le_zero.mp hb
    rw [Nat.gcd_zero_right] at hg
    subst hg
    refine r_lload_7 (pc := 6) dX7_lowest_6 ?_
    refine r_lconst (pc := 8) 0 dX7_lowest_8 (by decide) ?_
    refine r_lcmp_eq (pc := 9) 31 dX7_lowest_9 dX7_lowest_10 (by decide) (fun _ => ?_) (fun c9 => absurd (rfl) (c9))
    refine r_iload_4 (pc := 31) dX7_lowest_31 ?_
    refine r_if_ne (pc := 33) 43 dX7_lowest_33 (by decide) (fun c33 => ?_) (fun c33 => ?_)
    · refine r_lload_2 (pc := 43) dX7_lowest_43 ?_
      refine r_lload_5 (pc := 44) dX7_lowest_44 ?_
      refine r_ldiv (pc := 46) dX7_lowest_46 (ng) ?_
      refine r_lret (pc := 47) dX7_lowest_47 rfl (by rw [if_neg c33, pk_lDiv (by omega) g0 (by omega)]) rfl
    · refine r_lload_0 (pc := 36) dX7_lowest_36 ?_
      refine r_lload_5 (pc := 37) dX7_lowest_37 ?_
      refine r_ldiv (pc := 39) dX7_lowest_39 (ng) ?_
      refine r_goto (pc := 40) 47 dX7_lowest_40 (by decide) ?_
      refine r_lret (pc := 47) dX7_lowest_47 rfl (by rw [if_pos c33, pk_lDiv (by omega) g0 (by omega)]) rfl
  | succ n ih =>
    intro a b hb ha ha2 hb2 hg z1 z2
    by_cases hb0 : b = 0
    · subst hb0
      rw [Nat.gcd_zero_right] at hg
      subst hg
      refine r_lload_7 (pc := 6) dX7_lowest_6 ?_
      refine r_lconst (pc := 8) 0 dX7_lowest_8 (by decide) ?_
      refine r_lcmp_eq (pc := 9) 31 dX7_lowest_9 dX7_lowest_10 (by decide) (fun _ => ?_) (fun c9 => absurd (rfl) (c9))
      refine r_iload_4 (pc := 31) dX7_lowest_31 ?_
      refine r_if_ne (pc := 33) 43 dX7_lowest_33 (by decide) (fun c33 => ?_) (fun c33 => ?_)
      · refine r_lload_2 (pc := 43) dX7_lowest_43 ?_
        refine r_lload_5 (pc := 44) dX7_lowest_44 ?_
        refine r_ldiv (pc := 46) dX7_lowest_46 (ng) ?_
        refine r_lret (pc := 47) dX7_lowest_47 rfl (by rw [if_neg c33, pk_lDiv (by omega) g0 (by omega)]) rfl
      · refine r_lload_0 (pc := 36) dX7_lowest_36 ?_
        refine r_lload_5 (pc := 37) dX7_lowest_37 ?_
        refine r_ldiv (pc := 39) dX7_lowest_39 (ng) ?_
        refine r_goto (pc := 40) 47 dX7_lowest_40 (by decide) ?_
        refine r_lret (pc := 47) dX7_lowest_47 rfl (by rw [if_pos c33, pk_lDiv (by omega) g0 (by omega)]) rfl
    · have nb : ¬ lN b = 0 := fun z => by
        have := (pk_lEQ (a := b) (b := 0) (by omega) (by decide)).mp z
        omega
      have hm := Nat.mod_lt a (show 0 < b by omega)
      refine r_lload_7 (pc := 6) dX7_lowest_6 ?_
      refine r_lconst (pc := 8) 0 dX7_lowest_8 (by decide) ?_
      refine r_lcmp_eq (pc := 9) 31 dX7_lowest_9 dX7_lowest_10 (by decide) (fun c9 => absurd c9 (nb)) (fun _ => ?_)
      refine r_lload_5 (pc := 13) dX7_lowest_13 ?_
      refine r_lload_7 (pc := 15) dX7_lowest_15 ?_
      refine r_lrem (pc := 17) dX7_lowest_17 (nb) ?_
      rw [pk_lRem (by omega) (by omega) (by omega)]
      refine r_lstore_9 (pc := 18) dX7_lowest_18 rfl (by decide) ?_
      refine r_lload_7 (pc := 20) dX7_lowest_20 ?_
      refine r_lstore_5 (pc := 22) dX7_lowest_22 rfl (by decide) ?_
      refine r_lload_9 (pc := 24) dX7_lowest_24 ?_
      refine r_lstore_7 (pc := 26) dX7_lowest_26 rfl (by decide) ?_
      refine r_goto (pc := 28) 6 dX7_lowest_28 (by decide) ?_
      exact ih b (a % b) (by omega) (by omega) hb2 (by omega) (by rw [Nat.gcd_comm, ← Nat.gcd_rec, Nat.gcd_comm]; exact hg) _ _
/-- a fraction in lowest terms -/
def lwV (u v : Nat) (part : Int32) : Int64 := if part = 0 then lN (u / Nat.gcd v u) else lN (v / Nat.gcd v u)
theorem ct_X7_lowest {h : Wd} {u v : Nat} {part : Int32} (hu : u < 2 ^ 62) (hv : v < 2 ^ 62) (h0 : 0 < v) : Ct mX7_lowest [.long (lN u), .long (lN v), .int part] h (some (.long (lwV u v part))) h := by
  refine Ct.of (Z := List.replicate 6 .null) (by decide) (Nat.le_of_ble_eq_true rfl) (fun z hz => List.eq_of_mem_replicate hz) ?_
  show WW mX7_lowest 0 [.long (lN u), .null, .long (lN v), .null, .int part, .null, .null, .null, .null, .null, .null] [] _ _ _
  refine r_lload_2 (pc := 0) dX7_lowest_0 ?_
  refine r_lstore_5 (pc := 1) dX7_lowest_1 rfl (by decide) ?_
  refine r_lload_0 (pc := 3) dX7_lowest_3 ?_
  refine r_lstore_7 (pc := 4) dX7_lowest_4 rfl (by decide) ?_
  exact lp_X7_lowest hu hv h0 u v u (Nat.le_refl _) h0 hv hu rfl _ _
theorem ct_X7_oddsB {h : Wd} {k : Nat} {c : Mod} {x y : Int32} (hk : k + 24 < 76) (hb : (isC x && inR y 0 1) = false) : Ct mX7_odds [.ref k, .int x, .int y] (wm h k c) (some (.long (-1000000000000000002))) (wm h k c) := by
  refine Ct.of (Z := List.replicate 1 .null) (by decide) (Nat.le_of_ble_eq_true rfl) (fun z hz => List.eq_of_mem_replicate hz) ?_
  show WW mX7_odds 0 [.ref k, .int x, .int y, .null] [] _ _ _
  refine r_iload_1 (pc := 0) dX7_odds_0 ?_
  refine r_cS1_1 (pc := 1) (ct_X7_isCell) cs_X7_isCell ⟨Nat.le_of_ble_eq_true rfl, Nat.le_of_ble_eq_true rfl⟩ ml_X7_96 dX7_odds_1 rfl (Nat.le_of_ble_eq_true rfl) ?_
  refine r_if_eq (pc := 4) 17 dX7_odds_4 (by decide) (fun c4 => ?_) (fun c4 => ?_)
  · refine r_ldc2 (pc := 17) dX7_odds_17 kl_X7_276 ?_
    refine r_lret (pc := 20) dX7_odds_20 rfl (by first | rfl | simp_all [bI]) rfl
  · refine r_iload_2 (pc := 7) dX7_odds_7 ?_
    refine r_i2l (pc := 8) dX7_odds_8 ?_
    refine r_lconst (pc := 9) 0 dX7_odds_9 (by decide) ?_
    refine r_lconst (pc := 10) 1 dX7_odds_10 (by decide) ?_
    refine r_cS1_3 (pc := 11) (ct_X7_inI (lo := 0) (hi := 1) (by decide) (by decide)) cs_X7_in ⟨Nat.le_of_ble_eq_true rfl, Nat.le_of_ble_eq_true rfl⟩ ml_X7_86 dX7_odds_11 rfl (Nat.le_of_ble_eq_true rfl) ?_
    refine r_if_ne (pc := 14) 21 dX7_odds_14 (by decide) (fun c14 => ?_) (fun c14 => ?_)
    · exact absurd hb (by rw [bI_n0] at c4 c14; rw [c4, c14]; decide)
    · refine r_ldc2 (pc := 17) dX7_odds_17 kl_X7_276 ?_
      refine r_lret (pc := 20) dX7_odds_20 rfl (by first | rfl | simp_all [bI]) rfl
def odV (c : Mod) (n t : Nat) (y : Int32) : Int64 := if alN c n = 0 then y.toInt64 else lwV (onN c n t 46) (alN c n) y
theorem ct_X7_odds {h : Wd} {k n t : Nat} {c : Mod} {y : Int32} (hk : k + 24 < 76) (ht : t < 64) (hy : inR y 0 1 = true) (hs : wm_sights c = nI n) (hn : n ≤ 8) (ho : okSi c n) : Ct mX7_odds [.ref k, .int (nI t), .int y] (wm h k c) (some (.long (odV c n t y))) (wm h k c) := by
  have h1 : alN c n ≤ 46 := cnt_le _ _
  have h2 : onN c n t 46 ≤ 46 := cnt_le _ _
  refine Ct.of (Z := List.replicate 1 .null) (by decide) (Nat.le_of_ble_eq_true rfl) (fun z hz => List.eq_of_mem_replicate hz) ?_
  show WW mX7_odds 0 [.ref k, .int (nI t), .int y, .null] [] _ _ _
  refine r_iload_1 (pc := 0) dX7_odds_0 ?_
  refine r_cS1_1 (pc := 1) (ct_X7_isCell) cs_X7_isCell ⟨Nat.le_of_ble_eq_true rfl, Nat.le_of_ble_eq_true rfl⟩ ml_X7_96 dX7_odds_1 rfl (Nat.le_of_ble_eq_true rfl) ?_
  refine r_if_eq (pc := 4) 17 dX7_odds_4 (by decide) (fun c4 => absurd c4 (by rw [isC_n ht]; decide)) (fun _ => ?_)
  refine r_iload_2 (pc := 7) dX7_odds_7 ?_
  refine r_i2l (pc := 8) dX7_odds_8 ?_
  refine r_lconst (pc := 9) 0 dX7_odds_9 (by decide) ?_
  refine r_lconst (pc := 10) 1 dX7_odds_10 (by decide) ?_
  refine r_cS1_3 (pc := 11) (ct_X7_inI (lo := 0) (hi := 1) (by decide) (by decide)) cs_X7_in ⟨Nat.le_of_ble_eq_true rfl, Nat.le_of_ble_eq_true rfl⟩ ml_X7_86 dX7_odds_11 rfl (Nat.le_of_ble_eq_true rfl) ?_
  refine r_if_ne (pc := 14) 21 dX7_odds_14 (by decide) (fun _ => ?_) (fun c14 => absurd c14 (by rw [hy]; decide))
  refine r_aload_0 (pc := 21) dX7_odds_21 ?_
  refine r_iconst (pc := 22) (-1) dX7_odds_22 (by decide) ?_
  refine r_cV1_1 (pc := 23) (ct_X7_lodes hk hs hn ho) cv_X7_lodes ⟨Nat.le_of_ble_eq_true rfl, Nat.le_of_ble_eq_true rfl⟩ ml_X7_278 dX7_odds_23 (by omega) (wm_o _ _ _) rfl rfl (Nat.le_of_ble_eq_true rfl) ?_
  rw [ktM_all]
  refine r_istore_3 (pc := 26) dX7_odds_26 rfl (by decide) ?_
  refine r_iload_3 (pc := 27) dX7_odds_27 ?_
  refine r_if_ne (pc := 28) 36 dX7_odds_28 (by decide) (fun c28 => ?_) (fun c28 => ?_)
  · have d28 : ¬ alN c n = 0 := fun z => c28 (by rw [show cnt (ftB c n) 46 = 0 from z]; rfl)
    refine r_aload_0 (pc := 36) dX7_odds_36 ?_
    refine r_iload_1 (pc := 37) dX7_odds_37 ?_
    refine r_cV1_1 (pc := 38) (ct_X7_linesOn hk ht hs hn ho) cv_X7_linesOn ⟨Nat.le_of_ble_eq_true rfl, Nat.le_of_ble_eq_true rfl⟩ ml_X7_281 dX7_odds_38 (by omega) (wm_o _ _ _) rfl rfl (Nat.le_of_ble_eq_true rfl) ?_
    refine r_i2l (pc := 41) dX7_odds_41 ?_
    rw [nI_l (by omega)]
    refine r_iload_3 (pc := 42) dX7_odds_42 ?_
    refine r_i2l (pc := 43) dX7_odds_43 ?_
    rw [nI_l (Nat.lt_of_le_of_lt (cnt_le _ _) (by decide))]
    refine r_iload_2 (pc := 44) dX7_odds_44 ?_
    refine r_cS1_3 (pc := 45) (ct_X7_lowest (by omega) (Nat.lt_of_le_of_lt (cnt_le _ _) (by decide)) (by unfold alN at d28; omega)) cs_X7_lowest ⟨Nat.le_of_ble_eq_true rfl, Nat.le_of_ble_eq_true rfl⟩ ml_X7_284 dX7_odds_45 rfl (Nat.le_of_ble_eq_true rfl) ?_
    refine r_lret (pc := 48) dX7_odds_48 rfl (by rw [odV, if_neg d28]; rfl) rfl
  · have d28 : alN c n = 0 := (nI_eq (a := alN c n) (b := 0) (by omega) (by decide)).mp c28
    refine r_iload_2 (pc := 31) dX7_odds_31 ?_
    refine r_i2l (pc := 32) dX7_odds_32 ?_
    refine r_goto (pc := 33) 48 dX7_odds_33 (by decide) ?_
    refine r_lret (pc := 48) dX7_odds_48 rfl (by rw [odV, if_pos d28]) rfl
/-- next: best cell, fewest left -/
def mstN (a y : Nat) : Int32 := if nI a - nI y < nI y then nI y else nI a - nI y
def nxR (f : Nat → Int32) : Int32 × Int32 → Nat → Int32 × Int32
  | s, 0 => s
  | s, r + 1 => nxR f (if s.1 < 0 ∨ f (64 - (r + 1)) < s.2 then (nI (64 - (r + 1)), f (64 - (r + 1))) else s) r
def nxV (s : Int32 × Int32) (x : Int32) : Int32 := if s.1 < 0 ∨ x = 0 then s.1 else s.2
theorem ct_X7_nextB {h : Wd} {k : Nat} {c : Mod} {x : Int32} (hk : k + 24 < 76) (hb : inR x 0 1 = false) : Ct mX7_next [.ref k, .int x] (wm h k c) (some (.int (-2))) (wm h k c) := by
  refine Ct.of (Z := List.replicate 6 .null) (by decide) (Nat.le_of_ble_eq_true rfl) (fun z hz => List.eq_of_mem_replicate hz) ?_
  show WW mX7_next 0 [.ref k, .int x, .null, .null, .null, .null, .null, .null] [] _ _ _
  refine r_iload_1 (pc := 0) dX7_next_0 ?_
  refine r_i2l (pc := 1) dX7_next_1 ?_
  refine r_lconst (pc := 2) 0 dX7_next_2 (by decide) ?_
  refine r_lconst (pc := 3) 1 dX7_next_3 (by decide) ?_
  refine r_cS1_3 (pc := 4) (ct_X7_inI (lo := 0) (hi := 1) (by decide) (by decide)) cs_X7_in ⟨Nat.le_of_ble_eq_true rfl, Nat.le_of_ble_eq_true rfl⟩ ml_X7_86 dX7_next_4 rfl (Nat.le_of_ble_eq_true rfl) ?_
  refine r_if_ne (pc := 7) 13 dX7_next_7 (by decide) (fun c7 => absurd (by rw [hb]; rfl) c7) (fun _ => ?_)
  refine r_bipush (pc := 10) (-2) dX7_next_10 (by decide) ?_
  refine r_iret (pc := 12) dX7_next_12 rfl (by first | rfl | simp_all [bI]) rfl
theorem lp_X7_next {h : Wd} {k n : Nat} {c : Mod} {x : Int32} (hk : k + 24 < 76) (hs : wm_sights c = nI n) (hn : n ≤ 8) (ho : okSi c n) (h0 : 0 < alN c n) (R : Int32) : ∀ r t s, t + r = 64 → R = nxV (nxR (fun t => mstN (alN c n) (onN c n t 46)) s r) x → ∀ z1 z2, WW mX7_next 28 [.ref k, .int x, .int (nI (alN c n)), .int s.1, .int s.2, .int (nI t), z1, z2] [] (wm h k c) (some (.int R)) (wm h k c) := by
  have h1 : alN c n ≤ 46 := cnt_le _ _
  intro r
  induction r with
  | zero =>
    intro t s ht e z1 z2
    obtain rfl : t = 64 := by omega
    refine r_iload_5 (pc := 28) dX7_next_28 ?_
    refine r_bipush (pc := 30) 64 dX7_next_30 (by decide) ?_
    refine r_icmp_ge (pc := 32) 91 dX7_next_32 (by decide) (fun _ => ?_) (fun c32 => absurd (nI_le (a := 64) (b := 64) (by omega) (by omega)) (c32))
    refine r_iload_3 (pc := 91) dX7_next_91 ?_
    refine r_if_lt (pc := 92) 99 dX7_next_92 (by decide) (fun c92 => ?_) (fun c92 => ?_)
    · refine r_iload_3 (pc := 99) dX7_next_99 ?_
      refine r_goto (pc := 100) 105 dX7_next_100 (by decide) ?_
      refine r_iret (pc := 105) dX7_next_105 rfl (by rw [e, nxR, nxV, if_pos (Or.inl c92)]) rfl
    · refine r_iload_1 (pc := 95) dX7_next_95 ?_
      refine r_if_ne (pc := 96) 103 dX7_next_96 (by decide) (fun c96 => ?_) (fun c96 => ?_)
      · refine r_iload_4 (pc := 103) dX7_next_103 ?_
        refine r_iret (pc := 105) dX7_next_105 rfl (by rw [e, nxR, nxV, if_neg (fun q => q.elim c92 c96)]) rfl
      · refine r_iload_3 (pc := 99) dX7_next_99 ?_
        refine r_goto (pc := 100) 105 dX7_next_100 (by decide) ?_
        refine r_iret (pc := 105) dX7_next_105 rfl (by rw [e, nxR, nxV, if_pos (Or.inr c96)]) rfl
  | succ r ih =>
    intro t s ht e z1 z2
    have et : 64 - (r + 1) = t := by omega
    have go : ∀ s2 : Int32 × Int32, s2 = (if s.1 < 0 ∨ mstN (alN c n) (onN c n t 46) < s.2 then (nI t, mstN (alN c n) (onN c n t 46)) else s) → ∀ y1 y2, WW mX7_next 28 [.ref k, .int x, .int (nI (alN c n)), .int s2.1, .int s2.2, .int (nI (t + 1)), y1, y2] [] (wm h k c) (some (.int R)) (wm h k c) := fun s2 e2 y1 y2 => ih (t + 1) s2 (by omega) (by rw [e, nxR, et, e2]) y1 y2
    clear ih
    refine r_iload_5 (pc := 28) dX7_next_28 ?_
    refine r_bipush (pc := 30) 64 dX7_next_30 (by decide) ?_
    refine r_icmp_ge (pc := 32) 91 dX7_next_32 (by decide) (fun c32 => absurd c32 (nI_ge (a := t) (b := 64) (by omega) (by decide))) (fun _ => ?_)
    refine r_iload_2 (pc := 35) dX7_next_35 ?_
    refine r_if_le (pc := 36) 91 dX7_next_36 (by decide) (fun c36 => absurd c36 (nI_nle h0 (by omega))) (fun _ => ?_)
    refine r_aload_0 (pc := 39) dX7_next_39 ?_
    refine r_iload_5 (pc := 40) dX7_next_40 ?_
    refine r_cV1_1 (pc := 42) (ct_X7_linesOn hk (by omega) hs hn ho) cv_X7_linesOn ⟨Nat.le_of_ble_eq_true rfl, Nat.le_of_ble_eq_true rfl⟩ ml_X7_281 dX7_next_42 (by omega) (wm_o _ _ _) rfl rfl (Nat.le_of_ble_eq_true rfl) ?_
    refine r_istore_6 (pc := 45) dX7_next_45 rfl (by decide) ?_
    refine r_iload_6 (pc := 47) dX7_next_47 ?_
    refine r_iload_2 (pc := 49) dX7_next_49 ?_
    refine r_iload_6 (pc := 50) dX7_next_50 ?_
    refine r_isub (pc := 52) dX7_next_52 ?_
    refine r_icmp_le (pc := 53) 61 dX7_next_53 (by decide) (fun c53 => ?_) (fun c53 => ?_)
    · have d : nI (alN c n) - nI (onN c n t 46) = mstN (alN c n) (onN c n t 46) := by rw [mstN, if_neg (Int32.not_lt.mpr c53)]
      refine r_iload_2 (pc := 61) dX7_next_61 ?_
      refine r_iload_6 (pc := 62) dX7_next_62 ?_
      refine r_isub (pc := 64) dX7_next_64 ?_
      rw [show nI (alN c n) - nI (onN c n t 46) = mstN (alN c n) (onN c n t 46) by rw [mstN, if_neg (Int32.not_lt.mpr c53)]]
      refine r_istore_7 (pc := 65) dX7_next_65 rfl (by decide) ?_
      refine r_iload_3 (pc := 67) dX7_next_67 ?_
      refine r_if_lt (pc := 68) 78 dX7_next_68 (by decide) (fun c68 => ?_) (fun c68 => ?_)
      · refine r_iload_5 (pc := 78) dX7_next_78 ?_
        refine r_istore_3 (pc := 80) dX7_next_80 rfl (by decide) ?_
        refine r_iload_7 (pc := 81) dX7_next_81 ?_
        refine r_istore_4 (pc := 83) dX7_next_83 rfl (by decide) ?_
        refine r_inc_5 (pc := 85) dX7_next_85 rfl (by decide) ?_
        refine r_goto (pc := 88) 28 dX7_next_88 (by decide) ?_
        exact go _ (by rw [if_pos (Or.inl c68)]) _ _
      · refine r_iload_7 (pc := 71) dX7_next_71 ?_
        refine r_iload_4 (pc := 73) dX7_next_73 ?_
        refine r_icmp_ge (pc := 75) 85 dX7_next_75 (by decide) (fun c75 => ?_) (fun c75 => ?_)
        · refine r_inc_5 (pc := 85) dX7_next_85 rfl (by decide) ?_
          refine r_goto (pc := 88) 28 dX7_next_88 (by decide) ?_
          exact go s (by rw [if_neg (fun q => q.elim c68 (fun w => absurd w (Int32.not_lt.mpr c75)))]) _ _
        · refine r_iload_5 (pc := 78) dX7_next_78 ?_
          refine r_istore_3 (pc := 80) dX7_next_80 rfl (by decide) ?_
          refine r_iload_7 (pc := 81) dX7_next_81 ?_
          refine r_istore_4 (pc := 83) dX7_next_83 rfl (by decide) ?_
          refine r_inc_5 (pc := 85) dX7_next_85 rfl (by decide) ?_
          refine r_goto (pc := 88) 28 dX7_next_88 (by decide) ?_
          exact go _ (by rw [if_pos (Or.inr (i_nle c75))]) _ _
    · have d : nI (onN c n t 46) = mstN (alN c n) (onN c n t 46) := by rw [mstN, if_pos (i_nle c53)]
      refine r_iload_6 (pc := 56) dX7_next_56 ?_
      refine r_goto (pc := 58) 65 dX7_next_58 (by decide) ?_
      refine WW.st ?_ (show [Value.int (nI (onN c n t 46))] = [Value.int (mstN (alN c n) (onN c n t 46))] by rw [← d])
      refine r_istore_7 (pc := 65) dX7_next_65 rfl (by decide) ?_
      refine r_iload_3 (pc := 67) dX7_next_67 ?_
      refine r_if_lt (pc := 68) 78 dX7_next_68 (by decide) (fun c68 => ?_) (fun c68 => ?_)
      · refine r_iload_5 (pc := 78) dX7_next_78 ?_
        refine r_istore_3 (pc := 80) dX7_next_80 rfl (by decide) ?_
        refine r_iload_7 (pc := 81) dX7_next_81 ?_
        refine r_istore_4 (pc := 83) dX7_next_83 rfl (by decide) ?_
        refine r_inc_5 (pc := 85) dX7_next_85 rfl (by decide) ?_
        refine r_goto (pc := 88) 28 dX7_next_88 (by decide) ?_
        exact go _ (by rw [if_pos (Or.inl c68)]) _ _
      · refine r_iload_7 (pc := 71) dX7_next_71 ?_
        refine r_iload_4 (pc := 73) dX7_next_73 ?_
        refine r_icmp_ge (pc := 75) 85 dX7_next_75 (by decide) (fun c75 => ?_) (fun c75 => ?_)
        · refine r_inc_5 (pc := 85) dX7_next_85 rfl (by decide) ?_
          refine r_goto (pc := 88) 28 dX7_next_88 (by decide) ?_
          exact go s (by rw [if_neg (fun q => q.elim c68 (fun w => absurd w (Int32.not_lt.mpr c75)))]) _ _
        · refine r_iload_5 (pc := 78) dX7_next_78 ?_
          refine r_istore_3 (pc := 80) dX7_next_80 rfl (by decide) ?_
          refine r_iload_7 (pc := 81) dX7_next_81 ?_
          refine r_istore_4 (pc := 83) dX7_next_83 rfl (by decide) ?_
          refine r_inc_5 (pc := 85) dX7_next_85 rfl (by decide) ?_
          refine r_goto (pc := 88) 28 dX7_next_88 (by decide) ?_
          exact go _ (by rw [if_pos (Or.inr (i_nle c75))]) _ _
theorem ct_X7_next0 {h : Wd} {k n : Nat} {c : Mod} {x : Int32} (hk : k + 24 < 76) (hb : inR x 0 1 = true) (hs : wm_sights c = nI n) (hn : n ≤ 8) (ho : okSi c n) (h0 : alN c n = 0) : Ct mX7_next [.ref k, .int x] (wm h k c) (some (.int (-6))) (wm h k c) := by
  refine Ct.of (Z := List.replicate 6 .null) (by decide) (Nat.le_of_ble_eq_true rfl) (fun z hz => List.eq_of_mem_replicate hz) ?_
  show WW mX7_next 0 [.ref k, .int x, .null, .null, .null, .null, .null, .null] [] _ _ _
  refine r_iload_1 (pc := 0) dX7_next_0 ?_
  refine r_i2l (pc := 1) dX7_next_1 ?_
  refine r_lconst (pc := 2) 0 dX7_next_2 (by decide) ?_
  refine r_lconst (pc := 3) 1 dX7_next_3 (by decide) ?_
  refine r_cS1_3 (pc := 4) (ct_X7_inI (lo := 0) (hi := 1) (by decide) (by decide)) cs_X7_in ⟨Nat.le_of_ble_eq_true rfl, Nat.le_of_ble_eq_true rfl⟩ ml_X7_86 dX7_next_4 rfl (Nat.le_of_ble_eq_true rfl) ?_
  refine r_if_ne (pc := 7) 13 dX7_next_7 (by decide) (fun _ => ?_) (fun c7 => absurd c7 (by rw [hb]; decide))
  refine r_aload_0 (pc := 13) dX7_next_13 ?_
  refine r_iconst (pc := 14) (-1) dX7_next_14 (by decide) ?_
  refine r_cV1_1 (pc := 15) (ct_X7_lodes hk hs hn ho) cv_X7_lodes ⟨Nat.le_of_ble_eq_true rfl, Nat.le_of_ble_eq_true rfl⟩ ml_X7_278 dX7_next_15 (by omega) (wm_o _ _ _) rfl rfl (Nat.le_of_ble_eq_true rfl) ?_
  rw [ktM_all, show cnt (ftB c n) 46 = 0 from h0]
  refine r_istore_2 (pc := 18) dX7_next_18 rfl (by decide) ?_
  refine r_bipush (pc := 19) (-6) dX7_next_19 (by decide) ?_
  refine r_istore_3 (pc := 21) dX7_next_21 rfl (by decide) ?_
  refine r_iconst (pc := 22) 0 dX7_next_22 (by decide) ?_
  refine r_istore_4 (pc := 23) dX7_next_23 rfl (by decide) ?_
  refine r_iconst (pc := 25) 0 dX7_next_25 (by decide) ?_
  refine r_istore_5 (pc := 26) dX7_next_26 rfl (by decide) ?_
  refine r_iload_5 (pc := 28) dX7_next_28 ?_
  refine r_bipush (pc := 30) 64 dX7_next_30 (by decide) ?_
  refine r_icmp_ge (pc := 32) 91 dX7_next_32 (by decide) (fun c32 => absurd c32 (by decide)) (fun _ => ?_)
  refine r_iload_2 (pc := 35) dX7_next_35 ?_
  refine r_if_le (pc := 36) 91 dX7_next_36 (by decide) (fun _ => ?_) (fun c36 => absurd (by decide) (c36))
  refine r_iload_3 (pc := 91) dX7_next_91 ?_
  refine r_if_lt (pc := 92) 99 dX7_next_92 (by decide) (fun _ => ?_) (fun c92 => absurd (by decide) (c92))
  refine r_iload_3 (pc := 99) dX7_next_99 ?_
  refine r_goto (pc := 100) 105 dX7_next_100 (by decide) ?_
  refine r_iret (pc := 105) dX7_next_105 rfl (by first | rfl | simp_all [bI]) rfl
theorem ct_X7_next {h : Wd} {k n : Nat} {c : Mod} {x : Int32} (hk : k + 24 < 76) (hb : inR x 0 1 = true) (hs : wm_sights c = nI n) (hn : n ≤ 8) (ho : okSi c n) (h0 : 0 < alN c n) : Ct mX7_next [.ref k, .int x] (wm h k c) (some (.int (nxV (nxR (fun t => mstN (alN c n) (onN c n t 46)) (-6, 0) 64) x))) (wm h k c) := by
  refine Ct.of (Z := List.replicate 6 .null) (by decide) (Nat.le_of_ble_eq_true rfl) (fun z hz => List.eq_of_mem_replicate hz) ?_
  show WW mX7_next 0 [.ref k, .int x, .null, .null, .null, .null, .null, .null] [] _ _ _
  refine r_iload_1 (pc := 0) dX7_next_0 ?_
  refine r_i2l (pc := 1) dX7_next_1 ?_
  refine r_lconst (pc := 2) 0 dX7_next_2 (by decide) ?_
  refine r_lconst (pc := 3) 1 dX7_next_3 (by decide) ?_
  refine r_cS1_3 (pc := 4) (ct_X7_inI (lo := 0) (hi := 1) (by decide) (by decide)) cs_X7_in ⟨Nat.le_of_ble_eq_true rfl, Nat.le_of_ble_eq_true rfl⟩ ml_X7_86 dX7_next_4 rfl (Nat.le_of_ble_eq_true rfl) ?_
  refine r_if_ne (pc := 7) 13 dX7_next_7 (by decide) (fun _ => ?_) (fun c7 => absurd c7 (by rw [hb]; decide))
  refine r_aload_0 (pc := 13) dX7_next_13 ?_
  refine r_iconst (pc := 14) (-1) dX7_next_14 (by decide) ?_
  refine r_cV1_1 (pc := 15) (ct_X7_lodes hk hs hn ho) cv_X7_lodes ⟨Nat.le_of_ble_eq_true rfl, Nat.le_of_ble_eq_true rfl⟩ ml_X7_278 dX7_next_15 (by omega) (wm_o _ _ _) rfl rfl (Nat.le_of_ble_eq_true rfl) ?_
  rw [ktM_all]
  refine r_istore_2 (pc := 18) dX7_next_18 rfl (by decide) ?_
  refine r_bipush (pc := 19) (-6) dX7_next_19 (by decide) ?_
  refine r_istore_3 (pc := 21) dX7_next_21 rfl (by decide) ?_
  refine r_iconst (pc := 22) 0 dX7_next_22 (by decide) ?_
  refine r_istore_4 (pc := 23) dX7_next_23 rfl (by decide) ?_
  refine r_iconst (pc := 25) 0 dX7_next_25 (by decide) ?_
  refine r_istore_5 (pc := 26) dX7_next_26 rfl (by decide) ?_
  exact lp_X7_next hk hs hn ho h0 _ 64 0 (-6, 0) rfl rfl _ _
