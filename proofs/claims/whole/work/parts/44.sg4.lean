/-! SnoresGold: lodes, fractions, turns -/
theorem ct_X6_seenB {h : Wd} {S : SG} {x y : Int32} (hb : isC x = false) : Ct mX6_seen [.ref 0, .int x, .int y] (wx h S) (some (.int (-2))) (wx h S) := by
  refine Ct.of (Z := List.replicate 0 .null) (by decide) (Nat.le_of_ble_eq_true rfl) (fun z hz => List.eq_of_mem_replicate hz) ?_
  show WW mX6_seen 0 [.ref 0, .int x, .int y] [] _ _ _
  refine r_iload_1 (pc := 0) dX6_seen_0 ?_
  refine r_cS1_1 (pc := 1) (ct_X6_isCell) cs_X6_isCell ⟨Nat.le_of_ble_eq_true rfl, Nat.le_of_ble_eq_true rfl⟩ ml_X6_56 dX6_seen_1 rfl (Nat.le_of_ble_eq_true rfl) ?_
  refine r_if_ne (pc := 4) 10 dX6_seen_4 (by decide) (fun c4 => absurd (by rw [hb]; rfl) c4) (fun _ => ?_)
  refine r_bipush (pc := 7) (-2) dX6_seen_7 (by decide) ?_
  refine r_iret (pc := 9) dX6_seen_9 rfl (by first | rfl | simp_all [bI]) rfl
theorem ct_X6_seenF {h : Wd} {S : SG} {x y : Int32} (hb : isC x = true) (hs : wg_count S.now.sights = 8) : Ct mX6_seen [.ref 0, .int x, .int y] (wx h S) (some (.int (-4))) (wx h S) := by
  refine Ct.of (Z := List.replicate 0 .null) (by decide) (Nat.le_of_ble_eq_true rfl) (fun z hz => List.eq_of_mem_replicate hz) ?_
  show WW mX6_seen 0 [.ref 0, .int x, .int y] [] _ _ _
  refine r_iload_1 (pc := 0) dX6_seen_0 ?_
  refine r_cS1_1 (pc := 1) (ct_X6_isCell) cs_X6_isCell ⟨Nat.le_of_ble_eq_true rfl, Nat.le_of_ble_eq_true rfl⟩ ml_X6_56 dX6_seen_1 rfl (Nat.le_of_ble_eq_true rfl) ?_
  refine r_if_ne (pc := 4) 10 dX6_seen_4 (by decide) (fun _ => ?_) (fun c4 => absurd c4 (by rw [hb]; decide))
  refine r_aload_0 (pc := 10) dX6_seen_10 ?_
  refine r_f_X6_now (pc := 11) fl_X6_10 dX6_seen_11 ?_
  refine r_g_X1_sights (pc := 14) (List.mem_of_getElem? (i := 2) rfl) dX6_seen_14 ?_
  refine r_iload_1 (pc := 17) dX6_seen_17 ?_
  refine r_iload_2 (pc := 18) dX6_seen_18 ?_
  refine r_cV1_2 (pc := 19) ((ct_X3_addF (by decide) hs).at sXg1 sXg1) cv_X3_add ⟨Nat.le_of_ble_eq_true rfl, Nat.le_of_ble_eq_true rfl⟩ ml_X6_235 dX6_seen_19 (by decide) rfl rfl rfl (Nat.le_of_ble_eq_true rfl) ?_
  refine r_if_eq (pc := 22) 38 dX6_seen_22 (by decide) (fun _ => ?_) (fun c22 => absurd (rfl) (c22))
  refine r_bipush (pc := 38) (-4) dX6_seen_38 (by decide) ?_
  refine r_iret (pc := 40) dX6_seen_40 rfl (by first | rfl | simp_all [bI]) rfl
theorem ct_X6_seen {h : Wd} {S : SG} {n t : Nat} {y : Int32} (ht : t < 64) (hs : wg_count S.now.sights = nI n) (hn : n < 8) : Ct mX6_seen [.ref 0, .int (nI t), .int y] (wx h S) (some (.int (nI (n + 1)))) (wx h (S.sg 1 (sgt S.now.sights t (!decide (y = 0)) n))) := by
  refine Ct.of (Z := List.replicate 0 .null) (by decide) (Nat.le_of_ble_eq_true rfl) (fun z hz => List.eq_of_mem_replicate hz) ?_
  show WW mX6_seen 0 [.ref 0, .int (nI t), .int y] [] _ _ _
  refine r_iload_1 (pc := 0) dX6_seen_0 ?_
  refine r_cS1_1 (pc := 1) (ct_X6_isCell) cs_X6_isCell ⟨Nat.le_of_ble_eq_true rfl, Nat.le_of_ble_eq_true rfl⟩ ml_X6_56 dX6_seen_1 rfl (Nat.le_of_ble_eq_true rfl) ?_
  refine r_if_ne (pc := 4) 10 dX6_seen_4 (by decide) (fun _ => ?_) (fun c4 => absurd c4 (by rw [isC_n ht]; decide))
  refine r_aload_0 (pc := 10) dX6_seen_10 ?_
  refine r_f_X6_now (pc := 11) fl_X6_10 dX6_seen_11 ?_
  refine r_g_X1_sights (pc := 14) (List.mem_of_getElem? (i := 2) rfl) dX6_seen_14 ?_
  refine r_iload_1 (pc := 17) dX6_seen_17 ?_
  refine r_iload_2 (pc := 18) dX6_seen_18 ?_
  refine r_cV1_2 (pc := 19) ((ct_X3_add (by decide) ht hs hn).at sXg1 uXg1) cv_X3_add ⟨Nat.le_of_ble_eq_true rfl, Nat.le_of_ble_eq_true rfl⟩ ml_X6_235 dX6_seen_19 (by decide) rfl rfl rfl (Nat.le_of_ble_eq_true rfl) ?_
  refine r_if_eq (pc := 22) 38 dX6_seen_22 (by decide) (fun c22 => absurd c22 (by decide)) (fun _ => ?_)
  refine r_aload_0 (pc := 25) dX6_seen_25 ?_
  refine r_f_X6_now (pc := 26) fl_X6_10 dX6_seen_26 ?_
  refine r_g_X1_sights (pc := 29) (List.mem_of_getElem? (i := 2) rfl) dX6_seen_29 ?_
  refine r_cV1_0 (pc := 32) ((ct_X3_size (by decide)).at sXg1 sXg1) cv_X3_size ⟨Nat.le_of_ble_eq_true rfl, Nat.le_of_ble_eq_true rfl⟩ ml_X6_240 dX6_seen_32 (by decide) rfl rfl rfl (Nat.le_of_ble_eq_true rfl) ?_
  refine r_goto (pc := 35) 40 dX6_seen_35 (by decide) ?_
  refine r_iret (pc := 40) dX6_seen_40 rfl (by first | rfl | simp_all [bI]) rfl
theorem ct_X6_forget {h : Wd} {S : SG} : Ct mX6_forget [.ref 0] (wx h S) (some (.int (wg_count S.now.sights))) (wx h (S.sg 1 (70368744177663, 0))) := by
  refine Ct.of (Z := List.replicate 1 .null) (by decide) (Nat.le_of_ble_eq_true rfl) (fun z hz => List.eq_of_mem_replicate hz) ?_
  show WW mX6_forget 0 [.ref 0, .null] [] _ _ _
  refine r_aload_0 (pc := 0) dX6_forget_0 ?_
  refine r_f_X6_now (pc := 1) fl_X6_10 dX6_forget_1 ?_
  refine r_g_X1_sights (pc := 4) (List.mem_of_getElem? (i := 2) rfl) dX6_forget_4 ?_
  refine r_cV1_0 (pc := 7) ((ct_X3_size (by decide)).at sXg1 sXg1) cv_X3_size ⟨Nat.le_of_ble_eq_true rfl, Nat.le_of_ble_eq_true rfl⟩ ml_X6_240 dX6_forget_7 (by decide) rfl rfl rfl (Nat.le_of_ble_eq_true rfl) ?_
  refine r_istore_1 (pc := 10) dX6_forget_10 rfl (by decide) ?_
  refine r_aload_0 (pc := 11) dX6_forget_11 ?_
  refine r_f_X6_now (pc := 12) fl_X6_10 dX6_forget_12 ?_
  refine r_g_X1_sights (pc := 15) (List.mem_of_getElem? (i := 2) rfl) dX6_forget_15 ?_
  refine r_cV0_0 (pc := 18) ((ct_X3_clear (by decide)).at sXg1 uXg1) cv_X3_clear ⟨Nat.le_of_ble_eq_true rfl, Nat.le_of_ble_eq_true rfl⟩ ml_X6_241 dX6_forget_18 (by decide) rfl rfl rfl (Nat.le_of_ble_eq_true rfl) ?_
  refine r_iload_1 (pc := 21) dX6_forget_21 ?_
  refine r_iret (pc := 22) dX6_forget_22 rfl (by first | rfl | simp_all [bI]) rfl
def fiN (g : Sights) : Nat := cnt (kb (wg_fitting g)) 64
def thN (g : Sights) (t : Nat) : Nat := cnt (kb (wg_fitting g &&& lthN t)) 64
theorem ct_X6_lodes {h : Wd} {S : SG} {i : Int32} : Ct mX6_lodes [.ref 0, .int i] (wx h S) (some (.int (if i = -1 then nI (fiN S.now.sights) else kth (wg_fitting S.now.sights) i 0 46))) (wx h S) := by
  refine Ct.of (Z := List.replicate 0 .null) (by decide) (Nat.le_of_ble_eq_true rfl) (fun z hz => List.eq_of_mem_replicate hz) ?_
  show WW mX6_lodes 0 [.ref 0, .int i] [] _ _ _
  refine r_iload_1 (pc := 0) dX6_lodes_0 ?_
  refine r_iconst (pc := 1) (-1) dX6_lodes_1 (by decide) ?_
  refine r_icmp_ne (pc := 2) 18 dX6_lodes_2 (by decide) (fun c2 => ?_) (fun c2 => ?_)
  · refine r_aload_0 (pc := 18) dX6_lodes_18 ?_
    refine r_f_X6_now (pc := 19) fl_X6_10 dX6_lodes_19 ?_
    refine r_g_X1_sights (pc := 22) (List.mem_of_getElem? (i := 2) rfl) dX6_lodes_22 ?_
    refine r_iload_1 (pc := 25) dX6_lodes_25 ?_
    refine r_cV1_1 (pc := 26) ((ct_X3_fittingAt (by decide)).at sXg1 sXg1) cv_X3_fittingAt ⟨Nat.le_of_ble_eq_true rfl, Nat.le_of_ble_eq_true rfl⟩ ml_X6_245 dX6_lodes_26 (by decide) rfl rfl rfl (Nat.le_of_ble_eq_true rfl) ?_
    refine r_iret (pc := 29) dX6_lodes_29 rfl (by rw [if_neg c2]) rfl
  · refine r_aload_0 (pc := 5) dX6_lodes_5 ?_
    refine r_f_X6_now (pc := 6) fl_X6_10 dX6_lodes_6 ?_
    refine r_g_X1_sights (pc := 9) (List.mem_of_getElem? (i := 2) rfl) dX6_lodes_9 ?_
    refine r_cV1_0 (pc := 12) ((ct_X3_countFitting (by decide)).at sXg1 sXg1) cv_X3_countFitting ⟨Nat.le_of_ble_eq_true rfl, Nat.le_of_ble_eq_true rfl⟩ ml_X6_242 dX6_lodes_12 (by decide) rfl rfl rfl (Nat.le_of_ble_eq_true rfl) ?_
    refine r_goto (pc := 15) 29 dX6_lodes_15 (by decide) ?_
    refine r_iret (pc := 29) dX6_lodes_29 rfl (by rw [if_pos c2] <;> rfl) rfl
theorem gd_stop {h : Wd} {a b : Int64} {u i : Nat} (z1 z2 : Value) : WW mX6_greatestDivisor 9 [.long a, .null, .long b, .null, .long (lN u), .null, .long (lN 0), .null, .int (nI i), z1, z2] [] h (some (.long (lN (Nat.gcd u 0)))) h := by
  refine r_iload_8 (pc := 9) dX6_greatestDivisor_9 ?_
  refine r_bipush (pc := 11) 100 dX6_greatestDivisor_11 (by decide) ?_
  refine r_icmp_ge (pc := 13) 44 dX6_greatestDivisor_13 (by decide) (fun c13 => ?_) (fun c13 => ?_)
  · refine r_lload_4 (pc := 44) dX6_greatestDivisor_44 ?_
    refine r_lret (pc := 46) dX6_greatestDivisor_46 rfl (by rw [Nat.gcd_zero_right]) rfl
  · refine r_lload_6 (pc := 16) dX6_greatestDivisor_16 ?_
    refine r_lconst (pc := 18) 0 dX6_greatestDivisor_18 (by decide) ?_
    refine r_lcmp_eq (pc := 19) 44 dX6_greatestDivisor_19 dX6_greatestDivisor_20 (by decide) (fun _ => ?_) (fun c19 => absurd (rfl) (c19))
    refine r_lload_4 (pc := 44) dX6_greatestDivisor_44 ?_
    refine r_lret (pc := 46) dX6_greatestDivisor_46 rfl (by rw [Nat.gcd_zero_right]) rfl
theorem gd_step {h : Wd} {a b : Int64} {u v i : Nat} {r : Option Value} (hi : i < 100) (hv : 0 < v) (hu2 : u < 2 ^ 62) (hv2 : v < 2 ^ 62) (k : ∀ z1 z2, WW mX6_greatestDivisor 9 [.long a, .null, .long b, .null, .long (lN v), .null, .long (lN (u % v)), .null, .int (nI (i + 1)), z1, z2] [] h r h) (z1 z2 : Value) : WW mX6_greatestDivisor 9 [.long a, .null, .long b, .null, .long (lN u), .null, .long (lN v), .null, .int (nI i), z1, z2] [] h r h := by
  have nb : ¬ lN v = 0 := fun z => by
    have := (pk_lEQ (a := v) (b := 0) (by omega) (by decide)).mp z
    omega
  refine r_iload_8 (pc := 9) dX6_greatestDivisor_9 ?_
  refine r_bipush (pc := 11) 100 dX6_greatestDivisor_11 (by decide) ?_
  refine r_icmp_ge (pc := 13) 44 dX6_greatestDivisor_13 (by decide) (fun c13 => absurd c13 (nI_ge (a := i) (b := 100) (by omega) (by decide))) (fun _ => ?_)
  refine r_lload_6 (pc := 16) dX6_greatestDivisor_16 ?_
  refine r_lconst (pc := 18) 0 dX6_greatestDivisor_18 (by decide) ?_
  refine r_lcmp_eq (pc := 19) 44 dX6_greatestDivisor_19 dX6_greatestDivisor_20 (by decide) (fun c19 => absurd c19 (nb)) (fun _ => ?_)
  refine r_lload_4 (pc := 23) dX6_greatestDivisor_23 ?_
  refine r_lload_6 (pc := 25) dX6_greatestDivisor_25 ?_
  refine r_lrem (pc := 27) dX6_greatestDivisor_27 (nb) ?_
  rw [pk_lRem (by omega) (by omega) (by omega)]
  refine r_lstore_9 (pc := 28) dX6_greatestDivisor_28 rfl (by decide) ?_
  refine r_lload_6 (pc := 30) dX6_greatestDivisor_30 ?_
  refine r_lstore_4 (pc := 32) dX6_greatestDivisor_32 rfl (by decide) ?_
  refine r_lload_9 (pc := 34) dX6_greatestDivisor_34 ?_
  refine r_lstore_6 (pc := 36) dX6_greatestDivisor_36 rfl (by decide) ?_
  refine r_inc_8 (pc := 38) dX6_greatestDivisor_38 rfl (by decide) ?_
  refine r_goto (pc := 41) 9 dX6_greatestDivisor_41 (by decide) ?_
  exact k _ _
theorem gd_all {h : Wd} {a b : Int64} : ∀ k u v i, v < 2 ^ k → i + 2 * k ≤ 100 → u < 2 ^ 62 → v < 2 ^ 62 → ∀ z1 z2, WW mX6_greatestDivisor 9 [.long a, .null, .long b, .null, .long (lN u), .null, .long (lN v), .null, .int (nI i), z1, z2] [] h (some (.long (lN (Nat.gcd u v)))) h
  | 0, u, v, i, h1, _, _, _ => fun z1 z2 => by
    obtain rfl : v = 0 := by omega
    exact gd_stop z1 z2
  | k + 1, u, v, i, h1, h2, h3, h4 => fun z1 z2 => by
    by_cases h0 : v = 0
    · subst h0
      exact gd_stop z1 z2
    · have hm := Nat.mod_lt u (show 0 < v by omega)
      have e1 : Nat.gcd v (u % v) = Nat.gcd u v := by rw [Nat.gcd_comm v, ← Nat.gcd_rec, Nat.gcd_comm]
      refine gd_step (by omega) (by omega) h3 h4 (fun y1 y2 => ?_) z1 z2
      by_cases h5 : u % v < 2 ^ k
      · have := gd_all (a := a) (b := b) (h := h) k v (u % v) (i + 1) h5 (by omega) h4 (by omega) y1 y2
        rwa [e1] at this
      · have hp : 0 < 2 ^ k := Nat.two_pow_pos k
        have hm2 := Nat.mod_lt v (show 0 < u % v by omega)
        have e2 : Nat.gcd (u % v) (v % (u % v)) = Nat.gcd u v := by rw [Nat.gcd_comm (u % v), ← Nat.gcd_rec, Nat.gcd_comm, e1]
        have hs : v % (u % v) < 2 ^ k := by
          rw [Nat.mod_eq_sub_mod (by omega)]
          have := Nat.mod_le (v - u % v) (u % v)
          rw [Nat.pow_succ] at h1
          omega
        refine gd_step (by omega) (by omega) h4 (by omega) (fun x1 x2 => ?_) y1 y2
        have := gd_all (a := a) (b := b) (h := h) k (u % v) (v % (u % v)) (i + 1 + 1) hs (by omega) (by omega) (by omega) x1 x2
        rwa [e2] at this
theorem ct_X6_greatestDivisor {h : Wd} {u v : Nat} (hu : u < 2 ^ 62) (hv : v < 2 ^ 50) : Ct mX6_greatestDivisor [.long (lN u), .long (lN v)] h (some (.long (lN (Nat.gcd u v)))) h := by
  refine Ct.of (Z := List.replicate 7 .null) (by decide) (Nat.le_of_ble_eq_true rfl) (fun z hz => List.eq_of_mem_replicate hz) ?_
  show WW mX6_greatestDivisor 0 [.long (lN u), .null, .long (lN v), .null, .null, .null, .null, .null, .null, .null, .null] [] _ _ _
  refine r_lload_0 (pc := 0) dX6_greatestDivisor_0 ?_
  refine r_lstore_4 (pc := 1) dX6_greatestDivisor_1 rfl (by decide) ?_
  refine r_lload_2 (pc := 3) dX6_greatestDivisor_3 ?_
  refine r_lstore_6 (pc := 4) dX6_greatestDivisor_4 rfl (by decide) ?_
  refine r_iconst (pc := 6) 0 dX6_greatestDivisor_6 (by decide) ?_
  refine r_istore_8 (pc := 7) dX6_greatestDivisor_7 rfl (by decide) ?_
  exact gd_all 50 u v 0 hv (by decide) hu (by omega) _ _
def pfV (u v : Nat) (part : Int32) : Int64 := if v = 0 then (if part = 0 then 0 else 1) else lwV u v part
theorem ct_X6_partOfFraction {h : Wd} {u v : Nat} {part : Int32} (hu : u < 2 ^ 62) (hv : v < 2 ^ 50) : Ct mX6_partOfFraction [.long (lN u), .long (lN v), .int part] h (some (.long (pfV u v part))) h := by
  by_cases h0 : v = 0
  · subst h0
    refine Ct.of (Z := List.replicate 2 .null) (by decide) (Nat.le_of_ble_eq_true rfl) (fun z hz => List.eq_of_mem_replicate hz) ?_
    show WW mX6_partOfFraction 0 [.long (lN u), .null, .long (lN 0), .null, .int part, .null, .null] [] _ _ _
    refine r_lload_0 (pc := 0) dX6_partOfFraction_0 ?_
    refine r_lload_2 (pc := 1) dX6_partOfFraction_1 ?_
    refine r_cS1_2 (pc := 2) (ct_X6_greatestDivisor hu hv) cs_X6_greatestDivisor ⟨Nat.le_of_ble_eq_true rfl, Nat.le_of_ble_eq_true rfl⟩ ml_X6_333 dX6_partOfFraction_2 rfl (Nat.le_of_ble_eq_true rfl) ?_
    refine r_lstore_5 (pc := 5) dX6_partOfFraction_5 rfl (by decide) ?_
    refine r_lload_2 (pc := 7) dX6_partOfFraction_7 ?_
    refine r_lconst (pc := 8) 0 dX6_partOfFraction_8 (by decide) ?_
    refine r_lcmp_eq (pc := 9) 20 dX6_partOfFraction_9 dX6_partOfFraction_10 (by decide) (fun _ => ?_) (fun c9 => absurd (rfl) (c9))
    refine r_iload_4 (pc := 20) dX6_partOfFraction_20 ?_
    refine r_if_ne (pc := 22) 29 dX6_partOfFraction_22 (by decide) (fun c22 => ?_) (fun c22 => ?_)
    · refine r_lconst (pc := 29) 1 dX6_partOfFraction_29 (by decide) ?_
      refine r_lret (pc := 30) dX6_partOfFraction_30 rfl (by rw [pfV, if_pos rfl, if_neg c22]) rfl
    · refine r_lconst (pc := 25) 0 dX6_partOfFraction_25 (by decide) ?_
      refine r_goto (pc := 26) 30 dX6_partOfFraction_26 (by decide) ?_
      refine r_lret (pc := 30) dX6_partOfFraction_30 rfl (by rw [pfV, if_pos rfl, if_pos c22]) rfl
  · have g0 : 0 < Nat.gcd u v := Nat.gcd_pos_of_pos_right _ (by omega)
    have gl : Nat.gcd u v < 2 ^ 62 := Nat.lt_of_le_of_lt (Nat.gcd_le_right _ (by omega)) (by omega)
    have ng : ¬ lN (Nat.gcd u v) = 0 := fun z => by
      have := (pk_lEQ (a := Nat.gcd u v) (b := 0) (by omega) (by decide)).mp z
      omega
    have nv : ¬ lN v = 0 := fun z => by
      have := (pk_lEQ (a := v) (b := 0) (by omega) (by decide)).mp z
      omega
    refine Ct.of (Z := List.replicate 2 .null) (by decide) (Nat.le_of_ble_eq_true rfl) (fun z hz => List.eq_of_mem_replicate hz) ?_
    show WW mX6_partOfFraction 0 [.long (lN u), .null, .long (lN v), .null, .int part, .null, .null] [] _ _ _
    refine r_lload_0 (pc := 0) dX6_partOfFraction_0 ?_
    refine r_lload_2 (pc := 1) dX6_partOfFraction_1 ?_
    refine r_cS1_2 (pc := 2) (ct_X6_greatestDivisor hu hv) cs_X6_greatestDivisor ⟨Nat.le_of_ble_eq_true rfl, Nat.le_of_ble_eq_true rfl⟩ ml_X6_333 dX6_partOfFraction_2 rfl (Nat.le_of_ble_eq_true rfl) ?_
    refine r_lstore_5 (pc := 5) dX6_partOfFraction_5 rfl (by decide) ?_
    refine r_lload_2 (pc := 7) dX6_partOfFraction_7 ?_
    refine r_lconst (pc := 8) 0 dX6_partOfFraction_8 (by decide) ?_
    refine r_lcmp_eq (pc := 9) 20 dX6_partOfFraction_9 dX6_partOfFraction_10 (by decide) (fun c9 => absurd c9 (nv)) (fun _ => ?_)
    refine r_lload_5 (pc := 13) dX6_partOfFraction_13 ?_
    refine r_lconst (pc := 15) 0 dX6_partOfFraction_15 (by decide) ?_
    refine r_lcmp_ne (pc := 16) 31 dX6_partOfFraction_16 dX6_partOfFraction_17 (by decide) (fun _ => ?_) (fun c16 => absurd c16 (ng))
    refine r_iload_4 (pc := 31) dX6_partOfFraction_31 ?_
    refine r_if_ne (pc := 33) 40 dX6_partOfFraction_33 (by decide) (fun c33 => ?_) (fun c33 => ?_)
    · refine r_lload_2 (pc := 40) dX6_partOfFraction_40 ?_
      refine r_lload_5 (pc := 41) dX6_partOfFraction_41 ?_
      refine r_ldiv (pc := 43) dX6_partOfFraction_43 (ng) ?_
      refine r_lret (pc := 44) dX6_partOfFraction_44 rfl (by rw [pfV, if_neg h0, lwV, if_neg c33, pk_lDiv (by omega) g0 (by omega), Nat.gcd_comm]) rfl
    · refine r_lload_0 (pc := 36) dX6_partOfFraction_36 ?_
      refine r_goto (pc := 37) 41 dX6_partOfFraction_37 (by decide) ?_
      refine r_lload_5 (pc := 41) dX6_partOfFraction_41 ?_
      refine r_ldiv (pc := 43) dX6_partOfFraction_43 (ng) ?_
      refine r_lret (pc := 44) dX6_partOfFraction_44 rfl (by rw [pfV, if_neg h0, lwV, if_pos c33, pk_lDiv (by omega) g0 (by omega), Nat.gcd_comm]) rfl
theorem ct_X6_oddsB {h : Wd} {S : SG} {x y : Int32} (hb : (isC x && inR y 0 1) = false) : Ct mX6_odds [.ref 0, .int x, .int y] (wx h S) (some (.long (-1000000000000000002))) (wx h S) := by
  refine Ct.of (Z := List.replicate 0 .null) (by decide) (Nat.le_of_ble_eq_true rfl) (fun z hz => List.eq_of_mem_replicate hz) ?_
  show WW mX6_odds 0 [.ref 0, .int x, .int y] [] _ _ _
  refine r_iload_1 (pc := 0) dX6_odds_0 ?_
  refine r_cS1_1 (pc := 1) (ct_X6_isCell) cs_X6_isCell ⟨Nat.le_of_ble_eq_true rfl, Nat.le_of_ble_eq_true rfl⟩ ml_X6_56 dX6_odds_1 rfl (Nat.le_of_ble_eq_true rfl) ?_
  refine r_if_eq (pc := 4) 14 dX6_odds_4 (by decide) (fun c4 => ?_) (fun c4 => ?_)
  · refine r_ldc2 (pc := 14) dX6_odds_14 kl_X6_248 ?_
    refine r_lret (pc := 17) dX6_odds_17 rfl (by first | rfl | simp_all [bI]) rfl
  · refine r_iload_2 (pc := 7) dX6_odds_7 ?_
    refine r_cS1_1 (pc := 8) (ct_X6_isZeroOrOne) cs_X6_isZeroOrOne ⟨Nat.le_of_ble_eq_true rfl, Nat.le_of_ble_eq_true rfl⟩ ml_X6_157 dX6_odds_8 rfl (Nat.le_of_ble_eq_true rfl) ?_
    refine r_if_ne (pc := 11) 18 dX6_odds_11 (by decide) (fun c11 => ?_) (fun c11 => ?_)
    · exact absurd hb (by rw [bI_n0] at c4 c11; rw [is01_R] at c11; rw [c4, c11]; decide)
    · refine r_ldc2 (pc := 14) dX6_odds_14 kl_X6_248 ?_
      refine r_lret (pc := 17) dX6_odds_17 rfl (by first | rfl | simp_all [bI]) rfl
theorem ct_X6_odds {h : Wd} {S : SG} {t : Nat} {y : Int32} (ht : t < 64) (hy : inR y 0 1 = true) : Ct mX6_odds [.ref 0, .int (nI t), .int y] (wx h S) (some (.long (pfV (thN S.now.sights t) (fiN S.now.sights) y))) (wx h S) := by
  have h1 : thN S.now.sights t ≤ 64 := cnt_le _ _
  have h2 : fiN S.now.sights ≤ 64 := cnt_le _ _
  refine Ct.of (Z := List.replicate 0 .null) (by decide) (Nat.le_of_ble_eq_true rfl) (fun z hz => List.eq_of_mem_replicate hz) ?_
  show WW mX6_odds 0 [.ref 0, .int (nI t), .int y] [] _ _ _
  refine r_iload_1 (pc := 0) dX6_odds_0 ?_
  refine r_cS1_1 (pc := 1) (ct_X6_isCell) cs_X6_isCell ⟨Nat.le_of_ble_eq_true rfl, Nat.le_of_ble_eq_true rfl⟩ ml_X6_56 dX6_odds_1 rfl (Nat.le_of_ble_eq_true rfl) ?_
  refine r_if_eq (pc := 4) 14 dX6_odds_4 (by decide) (fun c4 => absurd c4 (by rw [isC_n ht]; decide)) (fun _ => ?_)
  refine r_iload_2 (pc := 7) dX6_odds_7 ?_
  refine r_cS1_1 (pc := 8) (ct_X6_isZeroOrOne) cs_X6_isZeroOrOne ⟨Nat.le_of_ble_eq_true rfl, Nat.le_of_ble_eq_true rfl⟩ ml_X6_157 dX6_odds_8 rfl (Nat.le_of_ble_eq_true rfl) ?_
  refine r_if_ne (pc := 11) 18 dX6_odds_11 (by decide) (fun _ => ?_) (fun c11 => absurd c11 (by rw [is01_R, hy]; decide))
  refine r_aload_0 (pc := 18) dX6_odds_18 ?_
  refine r_f_X6_now (pc := 19) fl_X6_10 dX6_odds_19 ?_
  refine r_g_X1_sights (pc := 22) (List.mem_of_getElem? (i := 2) rfl) dX6_odds_22 ?_
  refine r_iload_1 (pc := 25) dX6_odds_25 ?_
  refine r_cV1_1 (pc := 26) ((ct_X3_countThrough (by decide) ht).at sXg1 sXg1) cv_X3_countThrough ⟨Nat.le_of_ble_eq_true rfl, Nat.le_of_ble_eq_true rfl⟩ ml_X6_250 dX6_odds_26 (by decide) rfl rfl rfl (Nat.le_of_ble_eq_true rfl) ?_
  refine r_i2l (pc := 29) dX6_odds_29 ?_
  rw [nI_l (Nat.lt_of_le_of_lt (cnt_le _ _) (by decide))]
  refine r_aload_0 (pc := 30) dX6_odds_30 ?_
  refine r_f_X6_now (pc := 31) fl_X6_10 dX6_odds_31 ?_
  refine r_g_X1_sights (pc := 34) (List.mem_of_getElem? (i := 2) rfl) dX6_odds_34 ?_
  refine r_cV1_0 (pc := 37) ((ct_X3_countFitting (by decide)).at sXg1 sXg1) cv_X3_countFitting ⟨Nat.le_of_ble_eq_true rfl, Nat.le_of_ble_eq_true rfl⟩ ml_X6_242 dX6_odds_37 (by decide) rfl rfl rfl (Nat.le_of_ble_eq_true rfl) ?_
  refine r_i2l (pc := 40) dX6_odds_40 ?_
  rw [nI_l (Nat.lt_of_le_of_lt (cnt_le _ _) (by decide))]
  refine r_iload_2 (pc := 41) dX6_odds_41 ?_
  refine r_cS1_3 (pc := 42) (ct_X6_partOfFraction (Nat.lt_of_le_of_lt (cnt_le _ _) (by decide)) (Nat.lt_of_le_of_lt (cnt_le _ _) (by decide))) cs_X6_partOfFraction ⟨Nat.le_of_ble_eq_true rfl, Nat.le_of_ble_eq_true rfl⟩ ml_X6_253 dX6_odds_42 rfl (Nat.le_of_ble_eq_true rfl) ?_
  refine r_lret (pc := 45) dX6_odds_45 rfl (by first | rfl | simp_all [bI]) rfl
theorem ct_X6_nextB {h : Wd} {S : SG} {x : Int32} (hb : inR x 0 1 = false) : Ct mX6_next [.ref 0, .int x] (wx h S) (some (.int (-2))) (wx h S) := by
  refine Ct.of (Z := List.replicate 6 .null) (by decide) (Nat.le_of_ble_eq_true rfl) (fun z hz => List.eq_of_mem_replicate hz) ?_
  show WW mX6_next 0 [.ref 0, .int x, .null, .null, .null, .null, .null, .null] [] _ _ _
  refine r_iload_1 (pc := 0) dX6_next_0 ?_
  refine r_cS1_1 (pc := 1) (ct_X6_isZeroOrOne) cs_X6_isZeroOrOne ⟨Nat.le_of_ble_eq_true rfl, Nat.le_of_ble_eq_true rfl⟩ ml_X6_157 dX6_next_1 rfl (Nat.le_of_ble_eq_true rfl) ?_
  refine r_if_ne (pc := 4) 10 dX6_next_4 (by decide) (fun c4 => absurd (by rw [is01_R, hb]; rfl) c4) (fun _ => ?_)
  refine r_bipush (pc := 7) (-2) dX6_next_7 (by decide) ?_
  refine r_iret (pc := 9) dX6_next_9 rfl (by first | rfl | simp_all [bI]) rfl
def mxG2 (a b : Int32) : Int32 := if a < b then b else a
def mstX (a y : Nat) : Int32 := mxG2 (nI y) (nI a - nI y)
theorem lp_X6_next {h : Wd} {S : SG} {x R : Int32} : ∀ r j s, j + r = 64 → ok6 s.1 → R = (if x = 0 then (nxR (fun t => mstX (fiN S.now.sights) (thN S.now.sights t)) s r).1 else (nxR (fun t => mstX (fiN S.now.sights) (thN S.now.sights t)) s r).2) → ∀ z1 z2 : Value, WW mX6_next 37 [.ref 0, .int x, .int (nI (fiN S.now.sights)), .int s.1, .int s.2, .int (nI j), z1, z2] [] (wx h S) (some (.int R)) (wx h S) := by
  intro r
  induction r with
  | zero =>
    intro j s hj h6 e z1 z2
    obtain rfl : j = 64 := by omega
    refine r_iload_5 (pc := 37) dX6_next_37 ?_
    refine r_bipush (pc := 39) 64 dX6_next_39 (by decide) ?_
    refine r_icmp_ge (pc := 41) 95 dX6_next_41 (by decide) (fun _ => ?_) (fun c41 => absurd (nI_le (a := 64) (b := 64) (by omega) (by omega)) (c41))
    refine r_iload_1 (pc := 95) dX6_next_95 ?_
    refine r_if_ne (pc := 96) 103 dX6_next_96 (by decide) (fun c96 => ?_) (fun c96 => ?_)
    · refine r_iload_4 (pc := 103) dX6_next_103 ?_
      refine r_iret (pc := 105) dX6_next_105 rfl (by rw [e, if_neg c96]; rfl) rfl
    · refine r_iload_3 (pc := 99) dX6_next_99 ?_
      refine r_goto (pc := 100) 105 dX6_next_100 (by decide) ?_
      refine r_iret (pc := 105) dX6_next_105 rfl (by rw [e, if_pos c96]; rfl) rfl
  | succ r ih =>
    intro j s hj h6 e z1 z2
    have et : 64 - (r + 1) = j := by omega
    have go : ∀ s2 : Int32 × Int32, ok6 s2.1 → s2 = (if s.1 < 0 ∨ mstX (fiN S.now.sights) (thN S.now.sights j) < s.2 then (nI j, mstX (fiN S.now.sights) (thN S.now.sights j)) else s) → ∀ y1 y2, WW mX6_next 37 [.ref 0, .int x, .int (nI (fiN S.now.sights)), .int s2.1, .int s2.2, .int (nI (j + 1)), y1, y2] [] (wx h S) (some (.int R)) (wx h S) := fun s2 h2 e2 y1 y2 => ih (j + 1) s2 (by omega) h2 (by rw [e, nxR, et, e2]) y1 y2
    clear ih
    refine r_iload_5 (pc := 37) dX6_next_37 ?_
    refine r_bipush (pc := 39) 64 dX6_next_39 (by decide) ?_
    refine r_icmp_ge (pc := 41) 95 dX6_next_41 (by decide) (fun c41 => absurd c41 (nI_ge (a := j) (b := 64) (by omega) (by decide))) (fun _ => ?_)
    refine r_aload_0 (pc := 44) dX6_next_44 ?_
    refine r_f_X6_now (pc := 45) fl_X6_10 dX6_next_45 ?_
    refine r_g_X1_sights (pc := 48) (List.mem_of_getElem? (i := 2) rfl) dX6_next_48 ?_
    refine r_iload_5 (pc := 51) dX6_next_51 ?_
    refine r_cV1_1 (pc := 53) ((ct_X3_countThrough (by decide) (by omega)).at sXg1 sXg1) cv_X3_countThrough ⟨Nat.le_of_ble_eq_true rfl, Nat.le_of_ble_eq_true rfl⟩ ml_X6_250 dX6_next_53 (by decide) rfl rfl rfl (Nat.le_of_ble_eq_true rfl) ?_
    refine r_istore_6 (pc := 56) dX6_next_56 rfl (by decide) ?_
    refine r_iload_6 (pc := 58) dX6_next_58 ?_
    refine r_iload_2 (pc := 60) dX6_next_60 ?_
    refine r_iload_6 (pc := 61) dX6_next_61 ?_
    refine r_isub (pc := 63) dX6_next_63 ?_
    refine r_max (pc := 64) dX6_next_64 ml_X6_257 (by decide) (Nat.le_of_ble_eq_true rfl) ?_
    refine r_istore_7 (pc := 67) dX6_next_67 rfl (by decide) ?_
    refine r_iload_3 (pc := 69) dX6_next_69 ?_
    refine r_bipush (pc := 70) (-6) dX6_next_70 (by decide) ?_
    refine r_icmp_eq (pc := 72) 82 dX6_next_72 (by decide) (fun c72 => ?_) (fun c72 => ?_)
    · refine r_iload_5 (pc := 82) dX6_next_82 ?_
      refine r_istore_3 (pc := 84) dX6_next_84 rfl (by decide) ?_
      refine r_iload_7 (pc := 85) dX6_next_85 ?_
      refine r_istore_4 (pc := 87) dX6_next_87 rfl (by decide) ?_
      refine r_inc_5 (pc := 89) dX6_next_89 rfl (by decide) ?_
      refine r_goto (pc := 92) 37 dX6_next_92 (by decide) ?_
      exact go (nI j, mstX (fiN S.now.sights) (thN S.now.sights j)) (Or.inr ⟨j, by omega, rfl⟩) (by rw [if_pos (Or.inl ((ok6_neg h6).mpr c72))]) _ _
    · refine r_iload_7 (pc := 75) dX6_next_75 ?_
      refine r_iload_4 (pc := 77) dX6_next_77 ?_
      refine r_icmp_ge (pc := 79) 89 dX6_next_79 (by decide) (fun c79 => ?_) (fun c79 => ?_)
      · refine r_inc_5 (pc := 89) dX6_next_89 rfl (by decide) ?_
        refine r_goto (pc := 92) 37 dX6_next_92 (by decide) ?_
        exact go s h6 (by rw [if_neg (fun z => z.elim (fun q => c72 ((ok6_neg h6).mp q)) (fun q => absurd q (Int32.not_lt.mpr c79)))]) _ _
      · refine r_iload_5 (pc := 82) dX6_next_82 ?_
        refine r_istore_3 (pc := 84) dX6_next_84 rfl (by decide) ?_
        refine r_iload_7 (pc := 85) dX6_next_85 ?_
        refine r_istore_4 (pc := 87) dX6_next_87 rfl (by decide) ?_
        refine r_inc_5 (pc := 89) dX6_next_89 rfl (by decide) ?_
        refine r_goto (pc := 92) 37 dX6_next_92 (by decide) ?_
        exact go (nI j, mstX (fiN S.now.sights) (thN S.now.sights j)) (Or.inr ⟨j, by omega, rfl⟩) (if_pos (Or.inr (i_nle c79))).symm _ _
theorem ct_X6_next0 {h : Wd} {S : SG} {x : Int32} (hb : inR x 0 1 = true) (h0 : fiN S.now.sights = 0) : Ct mX6_next [.ref 0, .int x] (wx h S) (some (.int (-6))) (wx h S) := by
  have cF : Ct mX3_countFitting [.ref 28] (wx h S) (some (.int (nI 0))) (wx h S) := by
    rw [← h0]
    exact (ct_X3_countFitting (by decide)).at sXg1 sXg1
  refine Ct.of (Z := List.replicate 6 .null) (by decide) (Nat.le_of_ble_eq_true rfl) (fun z hz => List.eq_of_mem_replicate hz) ?_
  show WW mX6_next 0 [.ref 0, .int x, .null, .null, .null, .null, .null, .null] [] _ _ _
  refine r_iload_1 (pc := 0) dX6_next_0 ?_
  refine r_cS1_1 (pc := 1) (ct_X6_isZeroOrOne) cs_X6_isZeroOrOne ⟨Nat.le_of_ble_eq_true rfl, Nat.le_of_ble_eq_true rfl⟩ ml_X6_157 dX6_next_1 rfl (Nat.le_of_ble_eq_true rfl) ?_
  refine r_if_ne (pc := 4) 10 dX6_next_4 (by decide) (fun _ => ?_) (fun c4 => absurd c4 (by rw [is01_R, hb]; decide))
  refine r_aload_0 (pc := 10) dX6_next_10 ?_
  refine r_f_X6_now (pc := 11) fl_X6_10 dX6_next_11 ?_
  refine r_g_X1_sights (pc := 14) (List.mem_of_getElem? (i := 2) rfl) dX6_next_14 ?_
  refine r_cV1_0 (pc := 17) (cF) cv_X3_countFitting ⟨Nat.le_of_ble_eq_true rfl, Nat.le_of_ble_eq_true rfl⟩ ml_X6_242 dX6_next_17 (by decide) rfl rfl rfl (Nat.le_of_ble_eq_true rfl) ?_
  refine r_istore_2 (pc := 20) dX6_next_20 rfl (by decide) ?_
  refine r_iload_2 (pc := 21) dX6_next_21 ?_
  refine r_if_ne (pc := 22) 28 dX6_next_22 (by decide) (fun c22 => absurd (rfl) c22) (fun _ => ?_)
  refine r_bipush (pc := 25) (-6) dX6_next_25 (by decide) ?_
  refine r_iret (pc := 27) dX6_next_27 rfl (by first | rfl | simp_all [bI]) rfl
theorem ct_X6_next {h : Wd} {S : SG} {x : Int32} (hb : inR x 0 1 = true) (h0 : 0 < fiN S.now.sights) : Ct mX6_next [.ref 0, .int x] (wx h S) (some (.int (if x = 0 then (nxR (fun t => mstX (fiN S.now.sights) (thN S.now.sights t)) (-6, nI (fiN S.now.sights)) 64).1 else (nxR (fun t => mstX (fiN S.now.sights) (thN S.now.sights t)) (-6, nI (fiN S.now.sights)) 64).2))) (wx h S) := by
  have h2 : fiN S.now.sights ≤ 64 := cnt_le _ _
  have hz : ¬ nI (fiN S.now.sights) = 0 := fun z => by
    have := (nI_eq (a := fiN S.now.sights) (b := 0) (by omega) (by decide)).mp z
    omega
  refine Ct.of (Z := List.replicate 6 .null) (by decide) (Nat.le_of_ble_eq_true rfl) (fun z hz => List.eq_of_mem_replicate hz) ?_
  show WW mX6_next 0 [.ref 0, .int x, .null, .null, .null, .null, .null, .null] [] _ _ _
  refine r_iload_1 (pc := 0) dX6_next_0 ?_
  refine r_cS1_1 (pc := 1) (ct_X6_isZeroOrOne) cs_X6_isZeroOrOne ⟨Nat.le_of_ble_eq_true rfl, Nat.le_of_ble_eq_true rfl⟩ ml_X6_157 dX6_next_1 rfl (Nat.le_of_ble_eq_true rfl) ?_
  refine r_if_ne (pc := 4) 10 dX6_next_4 (by decide) (fun _ => ?_) (fun c4 => absurd c4 (by rw [is01_R, hb]; decide))
  refine r_aload_0 (pc := 10) dX6_next_10 ?_
  refine r_f_X6_now (pc := 11) fl_X6_10 dX6_next_11 ?_
  refine r_g_X1_sights (pc := 14) (List.mem_of_getElem? (i := 2) rfl) dX6_next_14 ?_
  refine r_cV1_0 (pc := 17) ((ct_X3_countFitting (by decide)).at sXg1 sXg1) cv_X3_countFitting ⟨Nat.le_of_ble_eq_true rfl, Nat.le_of_ble_eq_true rfl⟩ ml_X6_242 dX6_next_17 (by decide) rfl rfl rfl (Nat.le_of_ble_eq_true rfl) ?_
  refine r_istore_2 (pc := 20) dX6_next_20 rfl (by decide) ?_
  refine r_iload_2 (pc := 21) dX6_next_21 ?_
  refine r_if_ne (pc := 22) 28 dX6_next_22 (by decide) (fun _ => ?_) (fun c22 => absurd c22 (hz))
  refine r_bipush (pc := 28) (-6) dX6_next_28 (by decide) ?_
  refine r_istore_3 (pc := 30) dX6_next_30 rfl (by decide) ?_
  refine r_iload_2 (pc := 31) dX6_next_31 ?_
  refine r_istore_4 (pc := 32) dX6_next_32 rfl (by decide) ?_
  refine r_iconst (pc := 34) 0 dX6_next_34 (by decide) ?_
  refine r_istore_5 (pc := 35) dX6_next_35 rfl (by decide) ?_
  exact lp_X6_next 64 0 (-6, nI (fiN S.now.sights)) rfl (Or.inl rfl) rfl _ _
theorem ct_X6_leadAt {h : Wd} {S : SG} {d : Nat} (hd : d < 6) : Ct mX6_leadAt [.ref 0, .int (nI d)] (wx h S) (some (.int (S.lead d))) (wx h S) := by
  refine Ct.of (Z := List.replicate 0 .null) (by decide) (Nat.le_of_ble_eq_true rfl) (fun z hz => List.eq_of_mem_replicate hz) ?_
  show WW mX6_leadAt 0 [.ref 0, .int (nI d)] [] _ _ _
  refine r_iload_1 (pc := 0) dX6_leadAt_0 ?_
  refine r_if_lt (pc := 1) 22 dX6_leadAt_1 (by decide) (fun c1 => absurd c1 (Int32.not_lt.mpr (nI_pos' (by omega)))) (fun _ => ?_)
  refine r_iload_1 (pc := 4) dX6_leadAt_4 ?_
  refine r_aload_0 (pc := 5) dX6_leadAt_5 ?_
  refine r_f_X6_leads (pc := 6) fl_X6_47 dX6_leadAt_6 ?_
  refine r_w6_len_leads (pc := 9)  dX6_leadAt_9 ?_
  refine r_icmp_ge (pc := 10) 22 dX6_leadAt_10 (by decide) (fun c10 => absurd c10 (nI_ge (a := d) (b := 6) (by omega) (by decide))) (fun _ => ?_)
  refine r_aload_0 (pc := 13) dX6_leadAt_13 ?_
  refine r_f_X6_leads (pc := 14) fl_X6_47 dX6_leadAt_14 ?_
  refine r_iload_1 (pc := 17) dX6_leadAt_17 ?_
  refine r_w6_ld_leads (pc := 18)  (by omega) dX6_leadAt_18 ?_
  refine r_goto (pc := 19) 23 dX6_leadAt_19 (by decide) ?_
  refine r_iret (pc := 23) dX6_leadAt_23 rfl (by first | rfl | simp_all [bI]) rfl
/-- the row of leads for stretches of one length more -/
def fl1 (d g : Nat → Int32) (m : Nat) : Nat → Nat → Int32
  | 0 => g
  | i + 1 => upd (fl1 d g m i) i (if m = 0 then d i else mxG2 (d i - fl1 d g m i (i + 1)) (d (i + m) - fl1 d g m i i))
def fL (d g : Nat → Int32) : Nat → Nat → Int32
  | 0 => g
  | m + 1 => fl1 d (fL d g m) m (6 - m)
theorem lp_X6_findLeads {h : Wd} {S : SG} {m : Nat} {g : Nat → Int32} (hm : m < 6) : ∀ r i, i + r = 6 - m → WW mX6_findLeads 2 [.ref 0, .int (nI (m + 1)), .int (nI i)] [] (wx h (S.sl (fl1 S.dig g m i))) none (wx h (S.sl (fl1 S.dig g m (6 - m)))) := by
  intro r
  induction r with
  | zero =>
    intro i hi
    obtain rfl : i = 6 - m := by omega
    refine r_iload_2 (pc := 2) dX6_findLeads_2 ?_
    refine r_aload_0 (pc := 3) dX6_findLeads_3 ?_
    refine r_f_X6_leads (pc := 4) fl_X6_47 dX6_findLeads_4 ?_
    refine r_w6_len_leads (pc := 7)  dX6_findLeads_7 ?_
    refine r_icmp_ge (pc := 8) 82 dX6_findLeads_8 (by decide) (fun c8 => ?_) (fun c8 => ?_)
    · refine r_vret (pc := 82) dX6_findLeads_82 rfl rfl rfl
    · refine r_iload_2 (pc := 11) dX6_findLeads_11 ?_
      refine r_iload_1 (pc := 12) dX6_findLeads_12 ?_
      refine r_iadd (pc := 13) dX6_findLeads_13 ?_
      rw [nI_add]
      refine r_bipush (pc := 14) 6 dX6_findLeads_14 (by decide) ?_
      refine r_icmp_gt (pc := 16) 82 dX6_findLeads_16 (by decide) (fun _ => ?_) (fun c16 => absurd (nI_lt (a := 6) (b := 6 - m + (m + 1)) (by omega) (by omega)) (c16))
      refine r_vret (pc := 82) dX6_findLeads_82 rfl rfl rfl
  | succ r ih =>
    intro i hi
    by_cases h0 : m = 0
    · subst h0
      refine r_iload_2 (pc := 2) dX6_findLeads_2 ?_
      refine r_aload_0 (pc := 3) dX6_findLeads_3 ?_
      refine r_f_X6_leads (pc := 4) fl_X6_47 dX6_findLeads_4 ?_
      refine r_w6_len_leads (pc := 7)  dX6_findLeads_7 ?_
      refine r_icmp_ge (pc := 8) 82 dX6_findLeads_8 (by decide) (fun c8 => absurd c8 (nI_ge (a := i) (b := 6) (by omega) (by decide))) (fun _ => ?_)
      refine r_iload_2 (pc := 11) dX6_findLeads_11 ?_
      refine r_iload_1 (pc := 12) dX6_findLeads_12 ?_
      refine r_iadd (pc := 13) dX6_findLeads_13 ?_
      rw [nI_add]
      refine r_bipush (pc := 14) 6 dX6_findLeads_14 (by decide) ?_
      refine r_icmp_gt (pc := 16) 82 dX6_findLeads_16 (by decide) (fun c16 => absurd c16 (nI_nlt (a := 6) (b := i + (0 + 1)) (by omega) (by omega))) (fun _ => ?_)
      refine r_iload_1 (pc := 19) dX6_findLeads_19 ?_
      refine r_iconst (pc := 20) 1 dX6_findLeads_20 (by decide) ?_
      refine r_icmp_ne (pc := 21) 38 dX6_findLeads_21 (by decide) (fun c21 => absurd (rfl) c21) (fun _ => ?_)
      refine r_aload_0 (pc := 24) dX6_findLeads_24 ?_
      refine r_f_X6_leads (pc := 25) fl_X6_47 dX6_findLeads_25 ?_
      refine r_iload_2 (pc := 28) dX6_findLeads_28 ?_
      refine r_aload_0 (pc := 29) dX6_findLeads_29 ?_
      refine r_iload_2 (pc := 30) dX6_findLeads_30 ?_
      refine r_cV1_1 (pc := 31) (ct_X6_digitAt (by omega)) cv_X6_digitAt ⟨Nat.le_of_ble_eq_true rfl, Nat.le_of_ble_eq_true rfl⟩ ml_X6_225 dX6_findLeads_31 (by decide) rfl rfl rfl (Nat.le_of_ble_eq_true rfl) ?_
      refine r_w6_st_leads (pc := 34)  (by omega) dX6_findLeads_34 ?_
      refine r_goto (pc := 35) 76 dX6_findLeads_35 (by decide) ?_
      refine r_inc_2 (pc := 76) dX6_findLeads_76 rfl (by decide) ?_
      refine r_goto (pc := 79) 2 dX6_findLeads_79 (by decide) ?_
      exact (ih (i + 1) (by omega)).w (by rw [fl1, if_pos rfl] <;> rfl)
    · have e1 : nI i + nI (m + 1) - 1 = nI (i + m) := by rw [nI_add, ← Nat.add_assoc, nI_pred]
      have hd1 : Ct mX6_digitAt [.ref 0, .int (nI i + nI (m + 1) - 1)] (wx h (S.sl (fl1 S.dig g m i))) (some (.int (S.dig (i + m)))) (wx h (S.sl (fl1 S.dig g m i))) := by
        rw [e1]
        exact ct_X6_digitAt (S := S.sl (fl1 S.dig g m i)) (by omega)
      refine r_iload_2 (pc := 2) dX6_findLeads_2 ?_
      refine r_aload_0 (pc := 3) dX6_findLeads_3 ?_
      refine r_f_X6_leads (pc := 4) fl_X6_47 dX6_findLeads_4 ?_
      refine r_w6_len_leads (pc := 7)  dX6_findLeads_7 ?_
      refine r_icmp_ge (pc := 8) 82 dX6_findLeads_8 (by decide) (fun c8 => absurd c8 (nI_ge (a := i) (b := 6) (by omega) (by decide))) (fun _ => ?_)
      refine r_iload_2 (pc := 11) dX6_findLeads_11 ?_
      refine r_iload_1 (pc := 12) dX6_findLeads_12 ?_
      refine r_iadd (pc := 13) dX6_findLeads_13 ?_
      rw [nI_add]
      refine r_bipush (pc := 14) 6 dX6_findLeads_14 (by decide) ?_
      refine r_icmp_gt (pc := 16) 82 dX6_findLeads_16 (by decide) (fun c16 => absurd c16 (nI_nlt (a := 6) (b := i + (m + 1)) (by omega) (by omega))) (fun _ => ?_)
      refine r_iload_1 (pc := 19) dX6_findLeads_19 ?_
      refine r_iconst (pc := 20) 1 dX6_findLeads_20 (by decide) ?_
      refine r_icmp_ne (pc := 21) 38 dX6_findLeads_21 (by decide) (fun _ => ?_) (fun c21 => absurd c21 (fun z => h0 (by have := (nI_eq (a := m + 1) (b := 1) (by omega) (by decide)).mp z; omega)))
      refine r_aload_0 (pc := 38) dX6_findLeads_38 ?_
      refine r_f_X6_leads (pc := 39) fl_X6_47 dX6_findLeads_39 ?_
      refine r_iload_2 (pc := 42) dX6_findLeads_42 ?_
      refine r_aload_0 (pc := 43) dX6_findLeads_43 ?_
      refine r_iload_2 (pc := 44) dX6_findLeads_44 ?_
      refine r_cV1_1 (pc := 45) (ct_X6_digitAt (by omega)) cv_X6_digitAt ⟨Nat.le_of_ble_eq_true rfl, Nat.le_of_ble_eq_true rfl⟩ ml_X6_225 dX6_findLeads_45 (by decide) rfl rfl rfl (Nat.le_of_ble_eq_true rfl) ?_
      refine r_aload_0 (pc := 48) dX6_findLeads_48 ?_
      refine r_iload_2 (pc := 49) dX6_findLeads_49 ?_
      refine r_iconst (pc := 50) 1 dX6_findLeads_50 (by decide) ?_
      refine r_iadd (pc := 51) dX6_findLeads_51 ?_
      rw [← nI_succ]
      refine r_cV1_1 (pc := 52) (ct_X6_leadAt (by omega)) cv_X6_leadAt ⟨Nat.le_of_ble_eq_true rfl, Nat.le_of_ble_eq_true rfl⟩ ml_X6_265 dX6_findLeads_52 (by decide) rfl rfl rfl (Nat.le_of_ble_eq_true rfl) ?_
      refine r_isub (pc := 55) dX6_findLeads_55 ?_
      refine r_aload_0 (pc := 56) dX6_findLeads_56 ?_
      refine r_iload_2 (pc := 57) dX6_findLeads_57 ?_
      refine r_iload_1 (pc := 58) dX6_findLeads_58 ?_
      refine r_iadd (pc := 59) dX6_findLeads_59 ?_
      refine r_iconst (pc := 60) 1 dX6_findLeads_60 (by decide) ?_
      refine r_isub (pc := 61) dX6_findLeads_61 ?_
      refine r_cV1_1 (pc := 62) (hd1) cv_X6_digitAt ⟨Nat.le_of_ble_eq_true rfl, Nat.le_of_ble_eq_true rfl⟩ ml_X6_225 dX6_findLeads_62 (by decide) rfl rfl rfl (Nat.le_of_ble_eq_true rfl) ?_
      refine r_aload_0 (pc := 65) dX6_findLeads_65 ?_
      refine r_f_X6_leads (pc := 66) fl_X6_47 dX6_findLeads_66 ?_
      refine r_iload_2 (pc := 69) dX6_findLeads_69 ?_
      refine r_w6_ld_leads (pc := 70)  (by omega) dX6_findLeads_70 ?_
      refine r_isub (pc := 71) dX6_findLeads_71 ?_
      refine r_max (pc := 72) dX6_findLeads_72 ml_X6_257 (by decide) (Nat.le_of_ble_eq_true rfl) ?_
      refine r_w6_st_leads (pc := 75)  (by omega) dX6_findLeads_75 ?_
      refine r_inc_2 (pc := 76) dX6_findLeads_76 rfl (by decide) ?_
      refine r_goto (pc := 79) 2 dX6_findLeads_79 (by decide) ?_
      exact (ih (i + 1) (by omega)).w (by rw [fl1, if_neg h0] <;> rfl)
theorem ct_X6_findLeads {h : Wd} {S : SG} {m : Nat} (hm : m < 6) : Ct mX6_findLeads [.ref 0, .int (nI (m + 1))] (wx h S) none (wx h (S.sl (fl1 S.dig S.lead m (6 - m)))) := by
  refine Ct.of (Z := List.replicate 1 .null) (by decide) (Nat.le_of_ble_eq_true rfl) (fun z hz => List.eq_of_mem_replicate hz) ?_
  show WW mX6_findLeads 0 [.ref 0, .int (nI (m + 1)), .null] [] _ _ _
  refine r_iconst (pc := 0) 0 dX6_findLeads_0 (by decide) ?_
  refine r_istore_2 (pc := 1) dX6_findLeads_1 rfl (by decide) ?_
  exact (lp_X6_findLeads (S := S) (g := S.lead) hm (6 - m) 0 (by omega)).w rfl
theorem lp_X6_turns {h h' : Wd} {S : SG} {x y : Int32} {R : Option Value} (k : ∀ z, WW mX6_turns 44 [.ref 0, .int x, .int y, .int (nI 6), z] [] (wx h (S.sl (fL S.dig S.lead 5))) R h') : ∀ r m, m + r = 5 → ∀ z : Value, WW mX6_turns 27 [.ref 0, .int x, .int y, .int (nI (m + 1)), z] [] (wx h (S.sl (fL S.dig S.lead m))) R h' := by
  intro r
  induction r with
  | zero =>
    intro m hm z
    obtain rfl : m = 5 := by omega
    refine r_iload_3 (pc := 27) dX6_turns_27 ?_
    refine r_bipush (pc := 28) 6 dX6_turns_28 (by decide) ?_
    refine r_icmp_ge (pc := 30) 44 dX6_turns_30 (by decide) (fun _ => ?_) (fun c30 => absurd (by decide) (c30))
    exact k _
  | succ r ih =>
    intro m hm z
    refine r_iload_3 (pc := 27) dX6_turns_27 ?_
    refine r_bipush (pc := 28) 6 dX6_turns_28 (by decide) ?_
    refine r_icmp_ge (pc := 30) 44 dX6_turns_30 (by decide) (fun c30 => absurd c30 (nI_ge (a := m + 1) (b := 6) (by omega) (by decide))) (fun _ => ?_)
    refine r_aload_0 (pc := 33) dX6_turns_33 ?_
    refine r_iload_3 (pc := 34) dX6_turns_34 ?_
    refine r_cV0_1 (pc := 35) (ct_X6_findLeads (by omega)) cv_X6_findLeads ⟨Nat.le_of_ble_eq_true rfl, Nat.le_of_ble_eq_true rfl⟩ ml_X6_262 dX6_turns_35 (by decide) rfl rfl rfl (Nat.le_of_ble_eq_true rfl) ?_
    refine r_inc_3 (pc := 38) dX6_turns_38 rfl (by decide) ?_
    refine r_goto (pc := 41) 27 dX6_turns_41 (by decide) ?_
    exact ih (m + 1) (by omega) _
def tsD (S : SG) (x : Int32) : Nat → Int32 := wth S.dig x 6
def tsL (S : SG) (x : Int32) : Nat → Int32 := fL (tsD S x) S.lead 5
def tsV (S : SG) (x y : Int32) : Int32 := if y = 1 then (if tsD S x 0 - tsL S x 1 < tsD S x 5 - tsL S x 0 then 1 else 0) else 100 + mxG2 (tsD S x 0 - tsL S x 1) (tsD S x 5 - tsL S x 0)
theorem ct_X6_turnsB {h : Wd} {S : SG} {x y : Int32} (hb : (inR x 0 999999 && inR y 0 1) = false) : Ct mX6_turns [.ref 0, .int x, .int y] (wx h S) (some (.int (-2))) (wx h S) := by
  refine Ct.of (Z := List.replicate 2 .null) (by decide) (Nat.le_of_ble_eq_true rfl) (fun z hz => List.eq_of_mem_replicate hz) ?_
  show WW mX6_turns 0 [.ref 0, .int x, .int y, .null, .null] [] _ _ _
  refine r_iload_1 (pc := 0) dX6_turns_0 ?_
  refine r_iconst (pc := 1) 0 dX6_turns_1 (by decide) ?_
  refine r_ldc (pc := 2) dX6_turns_2 ki_X6_203 ?_
  refine r_cS1_3 (pc := 4) (ct_X6_isWithin) cs_X6_isWithin ⟨Nat.le_of_ble_eq_true rfl, Nat.le_of_ble_eq_true rfl⟩ ml_X6_60 dX6_turns_4 rfl (Nat.le_of_ble_eq_true rfl) ?_
  refine r_if_eq (pc := 7) 17 dX6_turns_7 (by decide) (fun c7 => ?_) (fun c7 => ?_)
  · refine r_bipush (pc := 17) (-2) dX6_turns_17 (by decide) ?_
    refine r_iret (pc := 19) dX6_turns_19 rfl (by first | rfl | simp_all [bI]) rfl
  · refine r_iload_2 (pc := 10) dX6_turns_10 ?_
    refine r_cS1_1 (pc := 11) (ct_X6_isZeroOrOne) cs_X6_isZeroOrOne ⟨Nat.le_of_ble_eq_true rfl, Nat.le_of_ble_eq_true rfl⟩ ml_X6_157 dX6_turns_11 rfl (Nat.le_of_ble_eq_true rfl) ?_
    refine r_if_ne (pc := 14) 20 dX6_turns_14 (by decide) (fun c14 => ?_) (fun c14 => ?_)
    · exact absurd hb (by rw [bI_n0] at c7 c14; rw [is01_R] at c14; rw [c7, c14]; decide)
    · refine r_bipush (pc := 17) (-2) dX6_turns_17 (by decide) ?_
      refine r_iret (pc := 19) dX6_turns_19 rfl (by first | rfl | simp_all [bI]) rfl
theorem ct_X6_turns {h : Wd} {S : SG} {x y : Int32} (hx : inR x 0 999999 = true) (hy : inR y 0 1 = true) : Ct mX6_turns [.ref 0, .int x, .int y] (wx h S) (some (.int (tsV S x y))) (wx h ((S.sd (tsD S x)).sl (tsL S x))) := by
  refine Ct.of (Z := List.replicate 2 .null) (by decide) (Nat.le_of_ble_eq_true rfl) (fun z hz => List.eq_of_mem_replicate hz) ?_
  show WW mX6_turns 0 [.ref 0, .int x, .int y, .null, .null] [] _ _ _
  refine r_iload_1 (pc := 0) dX6_turns_0 ?_
  refine r_iconst (pc := 1) 0 dX6_turns_1 (by decide) ?_
  refine r_ldc (pc := 2) dX6_turns_2 ki_X6_203 ?_
  refine r_cS1_3 (pc := 4) (ct_X6_isWithin) cs_X6_isWithin ⟨Nat.le_of_ble_eq_true rfl, Nat.le_of_ble_eq_true rfl⟩ ml_X6_60 dX6_turns_4 rfl (Nat.le_of_ble_eq_true rfl) ?_
  refine r_if_eq (pc := 7) 17 dX6_turns_7 (by decide) (fun c7 => absurd c7 (by rw [hx]; decide)) (fun _ => ?_)
  refine r_iload_2 (pc := 10) dX6_turns_10 ?_
  refine r_cS1_1 (pc := 11) (ct_X6_isZeroOrOne) cs_X6_isZeroOrOne ⟨Nat.le_of_ble_eq_true rfl, Nat.le_of_ble_eq_true rfl⟩ ml_X6_157 dX6_turns_11 rfl (Nat.le_of_ble_eq_true rfl) ?_
  refine r_if_ne (pc := 14) 20 dX6_turns_14 (by decide) (fun _ => ?_) (fun c14 => absurd c14 (by rw [is01_R, hy]; decide))
  refine r_aload_0 (pc := 20) dX6_turns_20 ?_
  refine r_iload_1 (pc := 21) dX6_turns_21 ?_
  refine r_cV0_1 (pc := 22) (ct_X6_readDigits) cv_X6_readDigits ⟨Nat.le_of_ble_eq_true rfl, Nat.le_of_ble_eq_true rfl⟩ ml_X6_204 dX6_turns_22 (by decide) rfl rfl rfl (Nat.le_of_ble_eq_true rfl) ?_
  refine r_iconst (pc := 25) 1 dX6_turns_25 (by decide) ?_
  refine r_istore_3 (pc := 26) dX6_turns_26 rfl (by decide) ?_
  refine lp_X6_turns (S := S.sd (tsD S x)) (fun z => ?_) 5 0 rfl _
  refine r_aload_0 (pc := 44) dX6_turns_44 ?_
  refine r_iconst (pc := 45) 0 dX6_turns_45 (by decide) ?_
  refine r_cV1_1 (pc := 46) (ct_X6_digitAt (d := 0) (by decide)) cv_X6_digitAt ⟨Nat.le_of_ble_eq_true rfl, Nat.le_of_ble_eq_true rfl⟩ ml_X6_225 dX6_turns_46 (by decide) rfl rfl rfl (Nat.le_of_ble_eq_true rfl) ?_
  refine r_aload_0 (pc := 49) dX6_turns_49 ?_
  refine r_iconst (pc := 50) 1 dX6_turns_50 (by decide) ?_
  refine r_cV1_1 (pc := 51) (ct_X6_leadAt (d := 1) (by decide)) cv_X6_leadAt ⟨Nat.le_of_ble_eq_true rfl, Nat.le_of_ble_eq_true rfl⟩ ml_X6_265 dX6_turns_51 (by decide) rfl rfl rfl (Nat.le_of_ble_eq_true rfl) ?_
  refine r_isub (pc := 54) dX6_turns_54 ?_
  refine r_istore_3 (pc := 55) dX6_turns_55 rfl (by decide) ?_
  refine r_aload_0 (pc := 56) dX6_turns_56 ?_
  refine r_iconst (pc := 57) 5 dX6_turns_57 (by decide) ?_
  refine r_cV1_1 (pc := 58) (ct_X6_digitAt (d := 5) (by decide)) cv_X6_digitAt ⟨Nat.le_of_ble_eq_true rfl, Nat.le_of_ble_eq_true rfl⟩ ml_X6_225 dX6_turns_58 (by decide) rfl rfl rfl (Nat.le_of_ble_eq_true rfl) ?_
  refine r_aload_0 (pc := 61) dX6_turns_61 ?_
  refine r_iconst (pc := 62) 0 dX6_turns_62 (by decide) ?_
  refine r_cV1_1 (pc := 63) (ct_X6_leadAt (d := 0) (by decide)) cv_X6_leadAt ⟨Nat.le_of_ble_eq_true rfl, Nat.le_of_ble_eq_true rfl⟩ ml_X6_265 dX6_turns_63 (by decide) rfl rfl rfl (Nat.le_of_ble_eq_true rfl) ?_
  refine r_isub (pc := 66) dX6_turns_66 ?_
  refine r_istore_4 (pc := 67) dX6_turns_67 rfl (by decide) ?_
  refine r_iload_2 (pc := 69) dX6_turns_69 ?_
  refine r_iconst (pc := 70) 1 dX6_turns_70 (by decide) ?_
  refine r_icmp_ne (pc := 71) 86 dX6_turns_71 (by decide) (fun c71 => ?_) (fun c71 => ?_)
  · refine r_bipush (pc := 86) 100 dX6_turns_86 (by decide) ?_
    refine r_iload_3 (pc := 88) dX6_turns_88 ?_
    refine r_iload_4 (pc := 89) dX6_turns_89 ?_
    refine r_max (pc := 91) dX6_turns_91 ml_X6_257 (by decide) (Nat.le_of_ble_eq_true rfl) ?_
    refine r_iadd (pc := 94) dX6_turns_94 ?_
    refine r_iret (pc := 95) dX6_turns_95 rfl (by rw [tsV, if_neg c71] <;> rfl) rfl
  · refine r_iload_3 (pc := 74) dX6_turns_74 ?_
    refine r_iload_4 (pc := 75) dX6_turns_75 ?_
    refine r_icmp_lt (pc := 77) 84 dX6_turns_77 (by decide) (fun c77 => ?_) (fun c77 => ?_)
    · refine r_iconst (pc := 84) 1 dX6_turns_84 (by decide) ?_
      refine r_iret (pc := 85) dX6_turns_85 rfl (by rw [tsV, if_pos c71, if_pos (show tsD S x 0 - tsL S x 1 < tsD S x 5 - tsL S x 0 from c77)]) rfl
    · refine r_iconst (pc := 80) 0 dX6_turns_80 (by decide) ?_
      refine r_goto (pc := 81) 85 dX6_turns_81 (by decide) ?_
      refine r_iret (pc := 85) dX6_turns_85 rfl (by rw [tsV, if_pos c71, if_neg (show ¬ tsD S x 0 - tsL S x 1 < tsD S x 5 - tsL S x 0 from c77)]) rfl
