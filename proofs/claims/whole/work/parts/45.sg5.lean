/-! SnoresGold: colds, years, images, told -/
theorem nI_mul (a b : Nat) : nI a * nI b = nI (a * b) := (Int32.ofNat_mul a b).symm
theorem WW.w2 {q : MI} {pc : Nat} {L st : List Value} {h h1 h' : Wd} {r : Option Value} (k : WW q pc L st h r h1) (e : h' = h1) : WW q pc L st h r h' := e ▸ k
theorem lN_ml (a b : Nat) : lN a * lN b = lN (a * b) := (Int64.ofNat_mul a b).symm
theorem lp_X6_power {h : Wd} {b e : Nat} (hb : b < 2 ^ 31) (he : e < 2 ^ 31) : ∀ r i, i + r = e → WW mX6_power 5 [.int (nI b), .int (nI e), .long (lN (b ^ i)), .null, .int (nI i)] [] h (some (.long (lN (b ^ e)))) h := by
  intro r
  induction r with
  | zero =>
    intro i hi
    obtain rfl : i = e := by omega
    refine r_iload_4 (pc := 5) dX6_power_5 ?_
    refine r_iload_1 (pc := 7) dX6_power_7 ?_
    refine r_icmp_ge (pc := 8) 22 dX6_power_8 (by decide) (fun _ => ?_) (fun c8 => absurd (nI_le (Nat.le_refl _) he) (c8))
    refine r_lload_2 (pc := 22) dX6_power_22 ?_
    refine r_lret (pc := 23) dX6_power_23 rfl (by first | rfl | simp_all [bI]) rfl
  | succ r ih =>
    intro i hi
    refine r_iload_4 (pc := 5) dX6_power_5 ?_
    refine r_iload_1 (pc := 7) dX6_power_7 ?_
    refine r_icmp_ge (pc := 8) 22 dX6_power_8 (by decide) (fun c8 => absurd c8 (nI_ge (by omega) he)) (fun _ => ?_)
    refine r_lload_2 (pc := 11) dX6_power_11 ?_
    refine r_iload_0 (pc := 12) dX6_power_12 ?_
    refine r_i2l (pc := 13) dX6_power_13 ?_
    refine r_lmul (pc := 14) dX6_power_14 ?_
    rw [nI_l hb, lN_ml, ← Nat.pow_succ]
    refine r_lstore_2 (pc := 15) dX6_power_15 rfl (by decide) ?_
    refine r_inc_4 (pc := 16) dX6_power_16 rfl (by decide) ?_
    refine r_goto (pc := 19) 5 dX6_power_19 (by decide) ?_
    exact ih (i + 1) (by omega)
theorem ct_X6_power {h : Wd} {b e : Nat} (hb : b < 2 ^ 31) (he : e < 2 ^ 31) : Ct mX6_power [.int (nI b), .int (nI e)] h (some (.long (lN (b ^ e)))) h := by
  refine Ct.of (Z := List.replicate 3 .null) (by decide) (Nat.le_of_ble_eq_true rfl) (fun z hz => List.eq_of_mem_replicate hz) ?_
  show WW mX6_power 0 [.int (nI b), .int (nI e), .null, .null, .null] [] _ _ _
  refine r_lconst (pc := 0) 1 dX6_power_0 (by decide) ?_
  refine r_lstore_2 (pc := 1) dX6_power_1 rfl (by decide) ?_
  refine r_iconst (pc := 2) 0 dX6_power_2 (by decide) ?_
  refine r_istore_4 (pc := 3) dX6_power_3 rfl (by decide) ?_
  exact lp_X6_power hb he e 0 (by omega)
theorem nI_10 {t : Nat} (ht : t ≤ 10) : 10 - nI t = nI (10 - t) := by
  revert t
  decide
theorem ct_X6_weightOf {h : Wd} {a b t : Nat} (ha : a ≤ 32) (hb : b ≤ 32) (ht : t ≤ 10) : Ct mX6_weightOf [.int (nI a), .int (nI b), .int (nI t)] h (some (.long (lN (t ^ a * (10 - t) ^ b)))) h := by
  refine Ct.of (Z := List.replicate 0 .null) (by decide) (Nat.le_of_ble_eq_true rfl) (fun z hz => List.eq_of_mem_replicate hz) ?_
  show WW mX6_weightOf 0 [.int (nI a), .int (nI b), .int (nI t)] [] _ _ _
  refine r_iload_2 (pc := 0) dX6_weightOf_0 ?_
  refine r_iload_0 (pc := 1) dX6_weightOf_1 ?_
  refine r_cS1_2 (pc := 2) (ct_X6_power (by omega) (by omega)) cs_X6_power ⟨Nat.le_of_ble_eq_true rfl, Nat.le_of_ble_eq_true rfl⟩ ml_X6_281 dX6_weightOf_2 rfl (Nat.le_of_ble_eq_true rfl) ?_
  refine r_bipush (pc := 5) 10 dX6_weightOf_5 (by decide) ?_
  refine r_iload_2 (pc := 7) dX6_weightOf_7 ?_
  refine r_isub (pc := 8) dX6_weightOf_8 ?_
  rw [nI_10 ht]
  refine r_iload_1 (pc := 9) dX6_weightOf_9 ?_
  refine r_cS1_2 (pc := 10) (ct_X6_power (by omega) (by omega)) cs_X6_power ⟨Nat.le_of_ble_eq_true rfl, Nat.le_of_ble_eq_true rfl⟩ ml_X6_281 dX6_weightOf_10 rfl (Nat.le_of_ble_eq_true rfl) ?_
  refine r_lmul (pc := 13) dX6_weightOf_13 ?_
  refine r_lret (pc := 14) dX6_weightOf_14 rfl (by rw [lN_ml]) rfl
/-- what is heard of one at a cell, with or without a cold -/
def hcV (c : Camp) (x : Int32) (b : Bool) (m : Nat) : Int32 := mx0 (snv (wc_goldOn c) (wc_known c m) b (bt (wc_whistling c) m) - dist (wc_tents c m) x)
def hcS (S : SG) (x : Int32) (n : Nat) : SG := (S.s1 (cpy (hcV S.now.camp x false) S.calm n)).s2 (cpy (hcV S.now.camp x true) S.cold n)
theorem lp_X6_hearWith {h : Wd} {S : SG} {x : Int32} : ∀ r j, j + r = 6 → ∀ z : Value, WW mX6_hearWithAndWithoutCold 10 [.ref 0, .int x, .ref 18, .int (nI j), z] [] (wx h (hcS S x j)) none (wx h (hcS S x 6)) := by
  intro r
  induction r with
  | zero =>
    intro j hj z
    obtain rfl : j = 6 := by omega
    refine r_iload_3 (pc := 10) dX6_hearWithAndWithoutCold_10 ?_
    refine r_bipush (pc := 11) 6 dX6_hearWithAndWithoutCold_11 (by decide) ?_
    refine r_icmp_ge (pc := 13) 71 dX6_hearWithAndWithoutCold_13 (by decide) (fun _ => ?_) (fun c13 => absurd (by decide) (c13))
    refine r_vret (pc := 71) dX6_hearWithAndWithoutCold_71 rfl rfl rfl
  | succ r ih =>
    intro j hj z
    have c0 : ∀ T : SG, Ct mX0_snoreIf [.ref 18, .int (nI j), .int 0] (wx h T) (some (.int (snv (wc_goldOn T.now.camp) (wc_known T.now.camp j) false (bt (wc_whistling T.now.camp) j)))) (wx h T) := fun T => (ct_X0_snoreIf (cold := false) (by decide) (by omega)).at sXc1 sXc1
    have c1 : ∀ T : SG, Ct mX0_snoreIf [.ref 18, .int (nI j), .int 1] (wx h T) (some (.int (snv (wc_goldOn T.now.camp) (wc_known T.now.camp j) true (bt (wc_whistling T.now.camp) j)))) (wx h T) := fun T => (ct_X0_snoreIf (cold := true) (by decide) (by omega)).at sXc1 sXc1
    refine r_iload_3 (pc := 10) dX6_hearWithAndWithoutCold_10 ?_
    refine r_bipush (pc := 11) 6 dX6_hearWithAndWithoutCold_11 (by decide) ?_
    refine r_icmp_ge (pc := 13) 71 dX6_hearWithAndWithoutCold_13 (by decide) (fun c13 => absurd c13 (nI_ge (a := j) (b := 6) (by omega) (by decide))) (fun _ => ?_)
    refine r_aload_2 (pc := 16) dX6_hearWithAndWithoutCold_16 ?_
    refine r_iload_3 (pc := 17) dX6_hearWithAndWithoutCold_17 ?_
    refine r_cV1_1 (pc := 18) ((ct_X0_tentOf (by decide) (by omega)).at sXc1 sXc1) cv_X0_tentOf ⟨Nat.le_of_ble_eq_true rfl, Nat.le_of_ble_eq_true rfl⟩ ml_X6_136 dX6_hearWithAndWithoutCold_18 (by decide) rfl rfl rfl (Nat.le_of_ble_eq_true rfl) ?_
    refine r_iload_1 (pc := 21) dX6_hearWithAndWithoutCold_21 ?_
    refine r_cS1_2 (pc := 22) (ct_X6_distance) cs_X6_distance ⟨Nat.le_of_ble_eq_true rfl, Nat.le_of_ble_eq_true rfl⟩ ml_X6_215 dX6_hearWithAndWithoutCold_22 rfl (Nat.le_of_ble_eq_true rfl) ?_
    refine r_istore_4 (pc := 25) dX6_hearWithAndWithoutCold_25 rfl (by decide) ?_
    refine r_aload_0 (pc := 27) dX6_hearWithAndWithoutCold_27 ?_
    refine r_f_X6_heardCalm (pc := 28) fl_X6_50 dX6_hearWithAndWithoutCold_28 ?_
    refine r_iload_3 (pc := 31) dX6_hearWithAndWithoutCold_31 ?_
    refine r_iconst (pc := 32) 0 dX6_hearWithAndWithoutCold_32 (by decide) ?_
    refine r_aload_2 (pc := 33) dX6_hearWithAndWithoutCold_33 ?_
    refine r_iload_3 (pc := 34) dX6_hearWithAndWithoutCold_34 ?_
    refine r_iconst (pc := 35) 0 dX6_hearWithAndWithoutCold_35 (by decide) ?_
    refine r_cV1_2 (pc := 36) (c0 _) cv_X0_snoreIf ⟨Nat.le_of_ble_eq_true rfl, Nat.le_of_ble_eq_true rfl⟩ ml_X6_326 dX6_hearWithAndWithoutCold_36 (by decide) rfl rfl rfl (Nat.le_of_ble_eq_true rfl) ?_
    refine r_iload_4 (pc := 39) dX6_hearWithAndWithoutCold_39 ?_
    refine r_isub (pc := 41) dX6_hearWithAndWithoutCold_41 ?_
    refine r_max (pc := 42) dX6_hearWithAndWithoutCold_42 ml_X6_257 (by decide) (Nat.le_of_ble_eq_true rfl) ?_
    refine r_w6_st_heardCalm (pc := 45)  (by omega) dX6_hearWithAndWithoutCold_45 ?_
    refine r_aload_0 (pc := 46) dX6_hearWithAndWithoutCold_46 ?_
    refine r_f_X6_heardCold (pc := 47) fl_X6_53 dX6_hearWithAndWithoutCold_47 ?_
    refine r_iload_3 (pc := 50) dX6_hearWithAndWithoutCold_50 ?_
    refine r_iconst (pc := 51) 0 dX6_hearWithAndWithoutCold_51 (by decide) ?_
    refine r_aload_2 (pc := 52) dX6_hearWithAndWithoutCold_52 ?_
    refine r_iload_3 (pc := 53) dX6_hearWithAndWithoutCold_53 ?_
    refine r_iconst (pc := 54) 1 dX6_hearWithAndWithoutCold_54 (by decide) ?_
    refine r_cV1_2 (pc := 55) (c1 _) cv_X0_snoreIf ⟨Nat.le_of_ble_eq_true rfl, Nat.le_of_ble_eq_true rfl⟩ ml_X6_326 dX6_hearWithAndWithoutCold_55 (by decide) rfl rfl rfl (Nat.le_of_ble_eq_true rfl) ?_
    refine r_iload_4 (pc := 58) dX6_hearWithAndWithoutCold_58 ?_
    refine r_isub (pc := 60) dX6_hearWithAndWithoutCold_60 ?_
    refine r_max (pc := 61) dX6_hearWithAndWithoutCold_61 ml_X6_257 (by decide) (Nat.le_of_ble_eq_true rfl) ?_
    refine r_w6_st_heardCold (pc := 64)  (by omega) dX6_hearWithAndWithoutCold_64 ?_
    refine r_inc_3 (pc := 65) dX6_hearWithAndWithoutCold_65 rfl (by decide) ?_
    refine r_goto (pc := 68) 10 dX6_hearWithAndWithoutCold_68 (by decide) ?_
    exact (ih (j + 1) (by omega) _).w (by rw [hcS, hcS, ← cpy_s, ← cpy_s] <;> rfl)
theorem ct_X6_hearWith {h : Wd} {S : SG} {x : Int32} : Ct mX6_hearWithAndWithoutCold [.ref 0, .int x] (wx h S) none (wx h (hcS S x 6)) := by
  refine Ct.of (Z := List.replicate 3 .null) (by decide) (Nat.le_of_ble_eq_true rfl) (fun z hz => List.eq_of_mem_replicate hz) ?_
  show WW mX6_hearWithAndWithoutCold 0 [.ref 0, .int x, .null, .null, .null] [] _ _ _
  refine r_aload_0 (pc := 0) dX6_hearWithAndWithoutCold_0 ?_
  refine r_f_X6_now (pc := 1) fl_X6_10 dX6_hearWithAndWithoutCold_1 ?_
  refine r_g_X1_camp (pc := 4) (List.mem_of_getElem? (i := 0) rfl) dX6_hearWithAndWithoutCold_4 ?_
  refine r_astore_2 (pc := 7) dX6_hearWithAndWithoutCold_7 rfl (by decide) ?_
  refine r_iconst (pc := 8) 0 dX6_hearWithAndWithoutCold_8 (by decide) ?_
  refine r_istore_3 (pc := 9) dX6_hearWithAndWithoutCold_9 rfl (by decide) ?_
  exact (lp_X6_hearWith 6 0 rfl _).w (by rw [hcS, cpy_0, cpy_0] <;> rfl)
def hsV (calm cold : Nat → Int32) (men sick : Int32) : Nat → Int32 := isum (fun m => if bt men m = true then (if bt sick m = true then cold m else calm m) else 0)
theorem lp_X6_heardIf {h : Wd} {S : SG} {men sick : Int32} : ∀ r j, j + r = 6 → WW mX6_heardIfSick 5 [.ref 0, .int men, .int sick, .int (hsV S.calm S.cold men sick j), .int (nI j)] [] (wx h S) (some (.int (hsV S.calm S.cold men sick 6))) (wx h S) := by
  intro r
  induction r with
  | zero =>
    intro j hj
    obtain rfl : j = 6 := by omega
    refine r_iload_4 (pc := 5) dX6_heardIfSick_5 ?_
    refine r_bipush (pc := 7) 6 dX6_heardIfSick_7 (by decide) ?_
    refine r_icmp_ge (pc := 9) 56 dX6_heardIfSick_9 (by decide) (fun _ => ?_) (fun c9 => absurd (by decide) (c9))
    refine r_iload_3 (pc := 56) dX6_heardIfSick_56 ?_
    refine r_iret (pc := 57) dX6_heardIfSick_57 rfl (by first | rfl | simp_all [bI]) rfl
  | succ r ih =>
    intro j hj
    refine r_iload_4 (pc := 5) dX6_heardIfSick_5 ?_
    refine r_bipush (pc := 7) 6 dX6_heardIfSick_7 (by decide) ?_
    refine r_icmp_ge (pc := 9) 56 dX6_heardIfSick_9 (by decide) (fun c9 => absurd c9 (nI_ge (a := j) (b := 6) (by omega) (by decide))) (fun _ => ?_)
    refine r_iload_1 (pc := 12) dX6_heardIfSick_12 ?_
    refine r_iload_4 (pc := 13) dX6_heardIfSick_13 ?_
    refine r_cS1_2 (pc := 15) (ct_X6_hasBit) cs_X6_hasBit ⟨Nat.le_of_ble_eq_true rfl, Nat.le_of_ble_eq_true rfl⟩ ml_X6_330 dX6_heardIfSick_15 rfl (Nat.le_of_ble_eq_true rfl) ?_
    refine r_if_eq (pc := 18) 50 dX6_heardIfSick_18 (by decide) (fun c18 => ?_) (fun c18 => ?_)
    · rw [hasB_n (by omega), bI_0] at c18
      refine r_inc_4 (pc := 50) dX6_heardIfSick_50 rfl (by decide) ?_
      refine r_goto (pc := 53) 5 dX6_heardIfSick_53 (by decide) ?_
      exact (ih (j + 1) (by omega)).L (by rw [hsV, isum, if_neg (by rw [c18]; decide), Int32.add_zero] <;> rfl)
    · rw [hasB_n (by omega), bI_n0] at c18
      refine r_iload_3 (pc := 21) dX6_heardIfSick_21 ?_
      refine r_iload_2 (pc := 22) dX6_heardIfSick_22 ?_
      refine r_iload_4 (pc := 23) dX6_heardIfSick_23 ?_
      refine r_cS1_2 (pc := 25) (ct_X6_hasBit) cs_X6_hasBit ⟨Nat.le_of_ble_eq_true rfl, Nat.le_of_ble_eq_true rfl⟩ ml_X6_330 dX6_heardIfSick_25 rfl (Nat.le_of_ble_eq_true rfl) ?_
      refine r_if_eq (pc := 28) 41 dX6_heardIfSick_28 (by decide) (fun c28 => ?_) (fun c28 => ?_)
      · rw [hasB_n (by omega), bI_0] at c28
        refine r_aload_0 (pc := 41) dX6_heardIfSick_41 ?_
        refine r_f_X6_heardCalm (pc := 42) fl_X6_50 dX6_heardIfSick_42 ?_
        refine r_iload_4 (pc := 45) dX6_heardIfSick_45 ?_
        refine r_w6_ld_heardCalm (pc := 47)  (by omega) dX6_heardIfSick_47 ?_
        refine r_iadd (pc := 48) dX6_heardIfSick_48 ?_
        refine r_istore_3 (pc := 49) dX6_heardIfSick_49 rfl (by decide) ?_
        refine r_inc_4 (pc := 50) dX6_heardIfSick_50 rfl (by decide) ?_
        refine r_goto (pc := 53) 5 dX6_heardIfSick_53 (by decide) ?_
        exact (ih (j + 1) (by omega)).L (by rw [hsV, isum, if_pos c18, if_neg (by rw [c28]; decide)] <;> rfl)
      · rw [hasB_n (by omega), bI_n0] at c28
        refine r_aload_0 (pc := 31) dX6_heardIfSick_31 ?_
        refine r_f_X6_heardCold (pc := 32) fl_X6_53 dX6_heardIfSick_32 ?_
        refine r_iload_4 (pc := 35) dX6_heardIfSick_35 ?_
        refine r_w6_ld_heardCold (pc := 37)  (by omega) dX6_heardIfSick_37 ?_
        refine r_goto (pc := 38) 48 dX6_heardIfSick_38 (by decide) ?_
        refine r_iadd (pc := 48) dX6_heardIfSick_48 ?_
        refine r_istore_3 (pc := 49) dX6_heardIfSick_49 rfl (by decide) ?_
        refine r_inc_4 (pc := 50) dX6_heardIfSick_50 rfl (by decide) ?_
        refine r_goto (pc := 53) 5 dX6_heardIfSick_53 (by decide) ?_
        exact (ih (j + 1) (by omega)).L (by rw [hsV, isum, if_pos c18, if_pos c28] <;> rfl)
theorem ct_X6_heardIfSick {h : Wd} {S : SG} {men sick : Int32} : Ct mX6_heardIfSick [.ref 0, .int men, .int sick] (wx h S) (some (.int (hsV S.calm S.cold men sick 6))) (wx h S) := by
  refine Ct.of (Z := List.replicate 2 .null) (by decide) (Nat.le_of_ble_eq_true rfl) (fun z hz => List.eq_of_mem_replicate hz) ?_
  show WW mX6_heardIfSick 0 [.ref 0, .int men, .int sick, .null, .null] [] _ _ _
  refine r_iconst (pc := 0) 0 dX6_heardIfSick_0 (by decide) ?_
  refine r_istore_3 (pc := 1) dX6_heardIfSick_1 rfl (by decide) ?_
  refine r_iconst (pc := 2) 0 dX6_heardIfSick_2 (by decide) ?_
  refine r_istore_4 (pc := 3) dX6_heardIfSick_3 rfl (by decide) ?_
  exact lp_X6_heardIf 6 0 rfl
def cwN (men : Int32) (t s : Nat) : Nat := t ^ cnt (bt (nI s)) 32 * (10 - t) ^ cnt (bt (men &&& (nI s ^^^ (-1)))) 32
def cuV (calm cold : Nat → Int32) (men : Int32) (t : Nat) (v : Int32) : Nat → Int64 := lsum (fun s => if nI s &&& men = nI s then (if v = -1 then lN (cwN men t s) * (hsV calm cold men (nI s) 6).toInt64 else if v ≤ hsV calm cold men (nI s) 6 then lN (cwN men t s) else 0) else 0)
theorem lp_X6_colds {h : Wd} {S : SG} {t u : Nat} {x v p : Int32} (ht : t ≤ 10) (eu : cuV S.calm S.cold (wc_men S.now.camp) t v 64 = lN u) (hu : u < 2 ^ 62) (hm : 10 ^ cnt (bt (wc_men S.now.camp)) 32 < 2 ^ 50) : ∀ r j, j + r = 64 → ∀ z1 z2 z3 : Value, WW mX6_colds 63 [.ref 0, .int x, .int (nI t), .int v, .int p, .int (wc_men S.now.camp), .long (cuV S.calm S.cold (wc_men S.now.camp) t v j), .null, .int (nI j), z1, z2, z3] [] (wx h S) (some (.long (pfV u (10 ^ cnt (bt (wc_men S.now.camp)) 32) p))) (wx h S) := by
  intro r
  induction r with
  | zero =>
    intro j hj z1 z2 z3
    obtain rfl : j = 64 := by omega
    rw [eu]
    refine r_iload_8 (pc := 63) dX6_colds_63 ?_
    refine r_bipush (pc := 65) 64 dX6_colds_65 (by decide) ?_
    refine r_icmp_ge (pc := 67) 149 dX6_colds_67 (by decide) (fun _ => ?_) (fun c67 => absurd (by decide) (c67))
    refine r_lload_6 (pc := 149) dX6_colds_149 ?_
    refine r_bipush (pc := 151) (nI 10) dX6_colds_151 (by decide) ?_
    refine r_iload_5 (pc := 153) dX6_colds_153 ?_
    refine r_cS1_1 (pc := 155) (ct_J6_bitCount_0f7a4) cs_J6_bitCount_0f7a4 ⟨Nat.le_of_ble_eq_true rfl, Nat.le_of_ble_eq_true rfl⟩ ml_X6_199 dX6_colds_155 rfl (Nat.le_of_ble_eq_true rfl) ?_
    refine r_cS1_2 (pc := 158) (ct_X6_power (b := 10) (by decide) (Nat.lt_of_le_of_lt (cnt_le _ _) (by decide))) cs_X6_power ⟨Nat.le_of_ble_eq_true rfl, Nat.le_of_ble_eq_true rfl⟩ ml_X6_281 dX6_colds_158 rfl (Nat.le_of_ble_eq_true rfl) ?_
    refine r_iload_4 (pc := 161) dX6_colds_161 ?_
    refine r_cS1_3 (pc := 163) (ct_X6_partOfFraction hu hm) cs_X6_partOfFraction ⟨Nat.le_of_ble_eq_true rfl, Nat.le_of_ble_eq_true rfl⟩ ml_X6_253 dX6_colds_163 rfl (Nat.le_of_ble_eq_true rfl) ?_
    refine r_lret (pc := 166) dX6_colds_166 rfl (by first | rfl | simp_all [bI]) rfl
  | succ r ih =>
    intro j hj z1 z2 z3
    refine r_iload_8 (pc := 63) dX6_colds_63 ?_
    refine r_bipush (pc := 65) 64 dX6_colds_65 (by decide) ?_
    refine r_icmp_ge (pc := 67) 149 dX6_colds_67 (by decide) (fun c67 => absurd c67 (nI_ge (a := j) (b := 64) (by omega) (by decide))) (fun _ => ?_)
    refine r_iload_8 (pc := 70) dX6_colds_70 ?_
    refine r_iload_5 (pc := 72) dX6_colds_72 ?_
    refine r_iand (pc := 74) dX6_colds_74 ?_
    refine r_iload_8 (pc := 75) dX6_colds_75 ?_
    refine r_icmp_ne (pc := 77) 143 dX6_colds_77 (by decide) (fun c77 => ?_) (fun c77 => ?_)
    · refine r_inc_8 (pc := 143) dX6_colds_143 rfl (by decide) ?_
      refine r_goto (pc := 146) 63 dX6_colds_146 (by decide) ?_
      exact (ih (j + 1) (by omega) _ _ _).L (by rw [cuV, lsum, if_neg c77, Int64.add_zero] <;> rfl)
    · refine r_aload_0 (pc := 80) dX6_colds_80 ?_
      refine r_iload_5 (pc := 81) dX6_colds_81 ?_
      refine r_iload_8 (pc := 83) dX6_colds_83 ?_
      refine r_cV1_2 (pc := 85) (ct_X6_heardIfSick) cv_X6_heardIfSick ⟨Nat.le_of_ble_eq_true rfl, Nat.le_of_ble_eq_true rfl⟩ ml_X6_274 dX6_colds_85 (by decide) rfl rfl rfl (Nat.le_of_ble_eq_true rfl) ?_
      refine r_istore_9 (pc := 88) dX6_colds_88 rfl (by decide) ?_
      refine r_iload_8 (pc := 90) dX6_colds_90 ?_
      refine r_cS1_1 (pc := 92) (ct_J6_bitCount_0f7a4) cs_J6_bitCount_0f7a4 ⟨Nat.le_of_ble_eq_true rfl, Nat.le_of_ble_eq_true rfl⟩ ml_X6_199 dX6_colds_92 rfl (Nat.le_of_ble_eq_true rfl) ?_
      refine r_iload_5 (pc := 95) dX6_colds_95 ?_
      refine r_iload_8 (pc := 97) dX6_colds_97 ?_
      refine r_iconst (pc := 99) (-1) dX6_colds_99 (by decide) ?_
      refine r_ixor (pc := 100) dX6_colds_100 ?_
      refine r_iand (pc := 101) dX6_colds_101 ?_
      refine r_cS1_1 (pc := 102) (ct_J6_bitCount_0f7a4) cs_J6_bitCount_0f7a4 ⟨Nat.le_of_ble_eq_true rfl, Nat.le_of_ble_eq_true rfl⟩ ml_X6_199 dX6_colds_102 rfl (Nat.le_of_ble_eq_true rfl) ?_
      refine r_iload_2 (pc := 105) dX6_colds_105 ?_
      refine r_cS1_3 (pc := 106) (ct_X6_weightOf (cnt_le _ _) (cnt_le _ _) ht) cs_X6_weightOf ⟨Nat.le_of_ble_eq_true rfl, Nat.le_of_ble_eq_true rfl⟩ ml_X6_277 dX6_colds_106 rfl (Nat.le_of_ble_eq_true rfl) ?_
      refine r_lstore_10 (pc := 109) dX6_colds_109 rfl (by decide) ?_
      refine r_iload_3 (pc := 111) dX6_colds_111 ?_
      refine r_iconst (pc := 112) (-1) dX6_colds_112 (by decide) ?_
      refine r_icmp_ne (pc := 113) 130 dX6_colds_113 (by decide) (fun c113 => ?_) (fun c113 => ?_)
      · refine r_iload_9 (pc := 130) dX6_colds_130 ?_
        refine r_iload_3 (pc := 132) dX6_colds_132 ?_
        refine r_icmp_lt (pc := 133) 143 dX6_colds_133 (by decide) (fun c133 => ?_) (fun c133 => ?_)
        · refine r_inc_8 (pc := 143) dX6_colds_143 rfl (by decide) ?_
          refine r_goto (pc := 146) 63 dX6_colds_146 (by decide) ?_
          exact (ih (j + 1) (by omega) _ _ _).L (by rw [cuV, lsum, if_pos c77, if_neg c113, if_neg (Int32.not_le.mpr c133), Int64.add_zero] <;> rfl)
        · refine r_lload_6 (pc := 136) dX6_colds_136 ?_
          refine r_lload_10 (pc := 138) dX6_colds_138 ?_
          refine r_ladd (pc := 140) dX6_colds_140 ?_
          refine r_lstore_6 (pc := 141) dX6_colds_141 rfl (by decide) ?_
          refine r_inc_8 (pc := 143) dX6_colds_143 rfl (by decide) ?_
          refine r_goto (pc := 146) 63 dX6_colds_146 (by decide) ?_
          exact (ih (j + 1) (by omega) _ _ _).L (by rw [cuV, lsum, if_pos c77, if_neg c113, if_pos (Int32.not_lt.mp c133)] <;> rfl)
      · refine r_lload_6 (pc := 116) dX6_colds_116 ?_
        refine r_lload_10 (pc := 118) dX6_colds_118 ?_
        refine r_iload_9 (pc := 120) dX6_colds_120 ?_
        refine r_i2l (pc := 122) dX6_colds_122 ?_
        refine r_lmul (pc := 123) dX6_colds_123 ?_
        refine r_ladd (pc := 124) dX6_colds_124 ?_
        refine r_lstore_6 (pc := 125) dX6_colds_125 rfl (by decide) ?_
        refine r_goto (pc := 127) 143 dX6_colds_127 (by decide) ?_
        refine r_inc_8 (pc := 143) dX6_colds_143 rfl (by decide) ?_
        refine r_goto (pc := 146) 63 dX6_colds_146 (by decide) ?_
        exact (ih (j + 1) (by omega) _ _ _).L (by rw [cuV, lsum, if_pos c77, if_pos c113] <;> rfl)
theorem ct_X6_colds {h : Wd} {S : SG} {j t u : Nat} {v p : Int32} (hj : j < 64) (ht : t ≤ 10) (hv : inR v (-1) 999 = true) (hp : inR p 0 1 = true) (eu : cuV (hcS S (nI j) 6).calm (hcS S (nI j) 6).cold (wc_men S.now.camp) t v 64 = lN u) (hu : u < 2 ^ 62) (hm : 10 ^ cnt (bt (wc_men S.now.camp)) 32 < 2 ^ 50) : Ct mX6_colds [.ref 0, .int (nI j), .int (nI t), .int v, .int p] (wx h S) (some (.long (pfV u (10 ^ cnt (bt (wc_men S.now.camp)) 32) p))) (wx h (hcS S (nI j) 6)) := by
  have ht2 : inR (nI t) 0 10 = true := decide_eq_true ⟨nI_pos' (by omega), nI_le (a := t) (b := 10) ht (by decide)⟩
  refine Ct.of (Z := List.replicate 7 .null) (by decide) (Nat.le_of_ble_eq_true rfl) (fun z hz => List.eq_of_mem_replicate hz) ?_
  show WW mX6_colds 0 [.ref 0, .int (nI j), .int (nI t), .int v, .int p, .null, .null, .null, .null, .null, .null, .null] [] _ _ _
  refine r_iload_1 (pc := 0) dX6_colds_0 ?_
  refine r_cS1_1 (pc := 1) (ct_X6_isCell) cs_X6_isCell ⟨Nat.le_of_ble_eq_true rfl, Nat.le_of_ble_eq_true rfl⟩ ml_X6_56 dX6_colds_1 rfl (Nat.le_of_ble_eq_true rfl) ?_
  refine r_if_eq (pc := 4) 36 dX6_colds_4 (by decide) (fun c4 => absurd c4 (by rw [isC_n hj]; decide)) (fun _ => ?_)
  refine r_iload_2 (pc := 7) dX6_colds_7 ?_
  refine r_iconst (pc := 8) 0 dX6_colds_8 (by decide) ?_
  refine r_bipush (pc := 9) 10 dX6_colds_9 (by decide) ?_
  refine r_cS1_3 (pc := 11) (ct_X6_isWithin) cs_X6_isWithin ⟨Nat.le_of_ble_eq_true rfl, Nat.le_of_ble_eq_true rfl⟩ ml_X6_60 dX6_colds_11 rfl (Nat.le_of_ble_eq_true rfl) ?_
  refine r_if_eq (pc := 14) 36 dX6_colds_14 (by decide) (fun c14 => absurd c14 (by rw [ht2]; decide)) (fun _ => ?_)
  refine r_iload_3 (pc := 17) dX6_colds_17 ?_
  refine r_iconst (pc := 18) (-1) dX6_colds_18 (by decide) ?_
  refine r_sipush (pc := 19) 999 dX6_colds_19 (by decide) ?_
  refine r_cS1_3 (pc := 22) (ct_X6_isWithin) cs_X6_isWithin ⟨Nat.le_of_ble_eq_true rfl, Nat.le_of_ble_eq_true rfl⟩ ml_X6_60 dX6_colds_22 rfl (Nat.le_of_ble_eq_true rfl) ?_
  refine r_if_eq (pc := 25) 36 dX6_colds_25 (by decide) (fun c25 => absurd c25 (by rw [hv]; decide)) (fun _ => ?_)
  refine r_iload_4 (pc := 28) dX6_colds_28 ?_
  refine r_cS1_1 (pc := 30) (ct_X6_isZeroOrOne) cs_X6_isZeroOrOne ⟨Nat.le_of_ble_eq_true rfl, Nat.le_of_ble_eq_true rfl⟩ ml_X6_157 dX6_colds_30 rfl (Nat.le_of_ble_eq_true rfl) ?_
  refine r_if_ne (pc := 33) 40 dX6_colds_33 (by decide) (fun _ => ?_) (fun c33 => absurd c33 (by rw [is01_R, hp]; decide))
  refine r_aload_0 (pc := 40) dX6_colds_40 ?_
  refine r_iload_1 (pc := 41) dX6_colds_41 ?_
  refine r_cV0_1 (pc := 42) (ct_X6_hearWith) cv_X6_hearWithAndWithoutCold ⟨Nat.le_of_ble_eq_true rfl, Nat.le_of_ble_eq_true rfl⟩ ml_X6_268 dX6_colds_42 (by decide) rfl rfl rfl (Nat.le_of_ble_eq_true rfl) ?_
  refine r_aload_0 (pc := 45) dX6_colds_45 ?_
  refine r_f_X6_now (pc := 46) fl_X6_10 dX6_colds_46 ?_
  refine r_g_X1_camp (pc := 49) (List.mem_of_getElem? (i := 0) rfl) dX6_colds_49 ?_
  refine r_cV1_0 (pc := 52) ((ct_X0_menBits (by decide)).at sXc1 sXc1) cv_X0_menBits ⟨Nat.le_of_ble_eq_true rfl, Nat.le_of_ble_eq_true rfl⟩ ml_X6_271 dX6_colds_52 (by decide) rfl rfl rfl (Nat.le_of_ble_eq_true rfl) ?_
  refine r_istore_5 (pc := 55) dX6_colds_55 rfl (by decide) ?_
  refine r_lconst (pc := 57) 0 dX6_colds_57 (by decide) ?_
  refine r_lstore_6 (pc := 58) dX6_colds_58 rfl (by decide) ?_
  refine r_iconst (pc := 60) 0 dX6_colds_60 (by decide) ?_
  refine r_istore_8 (pc := 61) dX6_colds_61 rfl (by decide) ?_
  exact lp_X6_colds (S := hcS S (nI j) 6) ht eu hu hm 64 0 rfl _ _ _
theorem ct_X6_coldsB {h : Wd} {S : SG} {cell x v p : Int32} (hb : (isC cell && (inR x 0 10 && (inR v (-1) 999 && inR p 0 1))) = false) : Ct mX6_colds [.ref 0, .int cell, .int x, .int v, .int p] (wx h S) (some (.long (-1000000000000000002))) (wx h S) := by
  refine Ct.of (Z := List.replicate 7 .null) (by decide) (Nat.le_of_ble_eq_true rfl) (fun z hz => List.eq_of_mem_replicate hz) ?_
  show WW mX6_colds 0 [.ref 0, .int cell, .int x, .int v, .int p, .null, .null, .null, .null, .null, .null, .null] [] _ _ _
  refine r_iload_1 (pc := 0) dX6_colds_0 ?_
  refine r_cS1_1 (pc := 1) (ct_X6_isCell) cs_X6_isCell ⟨Nat.le_of_ble_eq_true rfl, Nat.le_of_ble_eq_true rfl⟩ ml_X6_56 dX6_colds_1 rfl (Nat.le_of_ble_eq_true rfl) ?_
  refine r_if_eq (pc := 4) 36 dX6_colds_4 (by decide) (fun c4 => ?_) (fun c4 => ?_)
  · refine r_ldc2 (pc := 36) dX6_colds_36 kl_X6_248 ?_
    refine r_lret (pc := 39) dX6_colds_39 rfl (by first | rfl | simp_all [bI]) rfl
  · refine r_iload_2 (pc := 7) dX6_colds_7 ?_
    refine r_iconst (pc := 8) 0 dX6_colds_8 (by decide) ?_
    refine r_bipush (pc := 9) 10 dX6_colds_9 (by decide) ?_
    refine r_cS1_3 (pc := 11) (ct_X6_isWithin) cs_X6_isWithin ⟨Nat.le_of_ble_eq_true rfl, Nat.le_of_ble_eq_true rfl⟩ ml_X6_60 dX6_colds_11 rfl (Nat.le_of_ble_eq_true rfl) ?_
    refine r_if_eq (pc := 14) 36 dX6_colds_14 (by decide) (fun c14 => ?_) (fun c14 => ?_)
    · refine r_ldc2 (pc := 36) dX6_colds_36 kl_X6_248 ?_
      refine r_lret (pc := 39) dX6_colds_39 rfl (by first | rfl | simp_all [bI]) rfl
    · refine r_iload_3 (pc := 17) dX6_colds_17 ?_
      refine r_iconst (pc := 18) (-1) dX6_colds_18 (by decide) ?_
      refine r_sipush (pc := 19) 999 dX6_colds_19 (by decide) ?_
      refine r_cS1_3 (pc := 22) (ct_X6_isWithin) cs_X6_isWithin ⟨Nat.le_of_ble_eq_true rfl, Nat.le_of_ble_eq_true rfl⟩ ml_X6_60 dX6_colds_22 rfl (Nat.le_of_ble_eq_true rfl) ?_
      refine r_if_eq (pc := 25) 36 dX6_colds_25 (by decide) (fun c25 => ?_) (fun c25 => ?_)
      · refine r_ldc2 (pc := 36) dX6_colds_36 kl_X6_248 ?_
        refine r_lret (pc := 39) dX6_colds_39 rfl (by first | rfl | simp_all [bI]) rfl
      · refine r_iload_4 (pc := 28) dX6_colds_28 ?_
        refine r_cS1_1 (pc := 30) (ct_X6_isZeroOrOne) cs_X6_isZeroOrOne ⟨Nat.le_of_ble_eq_true rfl, Nat.le_of_ble_eq_true rfl⟩ ml_X6_157 dX6_colds_30 rfl (Nat.le_of_ble_eq_true rfl) ?_
        refine r_if_ne (pc := 33) 40 dX6_colds_33 (by decide) (fun c33 => ?_) (fun c33 => ?_)
        · exact absurd hb (by rw [bI_n0] at c4 c14 c25 c33; rw [is01_R] at c33; rw [c4, c14, c25, c33]; decide)
        · refine r_ldc2 (pc := 36) dX6_colds_36 kl_X6_248 ?_
          refine r_lret (pc := 39) dX6_colds_39 rfl (by first | rfl | simp_all [bI]) rfl
/-- a year -/
def ys1 (c : Camp) (a : Nat) : Camp := if rsn c (nI (a % 6)) (nI (a / 6 % 8)) = 0 then (if a / 6 % 8 = 6 then ngt c 6 else pfm c (a % 6) (nI (a / 6 % 8))) else c
def ysR (c : Camp) (a : Nat) : Nat → Camp
  | 0 => c
  | r + 1 => ysR (ys1 c (yrA a)) (yrA a) r
theorem ngt_tents (c : Camp) : wc_tents (ngt c 6) = wc_tents c := (ngt_same c 6).2.2.2
theorem okT_ys1 {c : Camp} {a : Nat} (h : okT (wc_tents c)) : okT (wc_tents (ys1 c a)) := by
  unfold ys1
  by_cases h0 : rsn c (nI (a % 6)) (nI (a / 6 % 8)) = 0
  · rw [if_pos h0]
    by_cases h6 : a / 6 % 8 = 6
    · rw [if_pos h6, ngt_tents]; exact h
    · rw [if_neg h6, pfm_tents]
      have hm : a % 6 < 6 := Nat.mod_lt _ (by decide)
      have h8 : a / 6 % 8 < 8 := Nat.mod_lt _ (by decide)
      obtain ⟨t, ht, et⟩ := h (a % 6) hm
      have n6 : ¬ nI (a / 6 % 8) = 6 := fun z => h6 ((nI_eq (a := a / 6 % 8) (b := 6) (by omega) (by decide)).mp z)
      exact okT_upd h (by rw [et]; exact stF_ok ht (by rw [← et]; exact rsn_st hm h0 n6))
  · rw [if_neg h0]; exact h
theorem yr_im (a : Nat) : 75 * nI a + 74 = nI (75 * a + 74) := by rw [show (75 : Int32) = nI 75 from rfl, show (74 : Int32) = nI 74 from rfl, nI_mul, nI_add]
def ysV (c : Camp) (w : Int32) : Int32 := if w = 0 then isum (wc_salts c) 6 else if w = 1 then 64 - nI (cntC (wc_claimers c) (-1)) else wc_womans c
theorem lp_X6_year {h : Wd} {S : SG} {n : Nat} {x w : Int32} (hn : n ≤ 99) : ∀ r j a c, j + r = n → a < 65537 → okT (wc_tents c) → ∀ z1 z2 : Value, WW mX6_year 53 [.ref 0, .int x, .int (nI n), .int w, .int (nI a), .int (nI j), z1, z2] [] (wx h (S.sa c)) (some (.int (ysV (ysR c a r) w))) (wx h (S.sa (ysR c a r))) := by
  intro r
  induction r with
  | zero =>
    intro j a c hj ha hT z1 z2
    obtain rfl : j = n := by omega
    refine r_iload_5 (pc := 53) dX6_year_53 ?_
    refine r_iload_2 (pc := 55) dX6_year_55 ?_
    refine r_icmp_ge (pc := 56) 121 dX6_year_56 (by decide) (fun _ => ?_) (fun c56 => absurd (nI_le (Nat.le_refl _) (by omega)) (c56))
    refine r_iload_3 (pc := 121) dX6_year_121 ?_
    by_cases e122_0 : w = 0
    · refine r_look (pc := 122) (off := 26) 148 dX6_year_122 (by decide) (by rw [e122_0]; decide) (by decide) ?_
      refine r_aload_0 (pc := 148) dX6_year_148 ?_
      refine r_f_X6_ahead (pc := 149) fl_X6_39 dX6_year_149 ?_
      refine r_cV1_0 (pc := 152) ((ct_X0_allSalt (by decide)).at sXa sXa) cv_X0_allSalt ⟨Nat.le_of_ble_eq_true rfl, Nat.le_of_ble_eq_true rfl⟩ ml_X6_292 dX6_year_152 (by decide) rfl rfl rfl (Nat.le_of_ble_eq_true rfl) ?_
      refine r_iret (pc := 155) dX6_year_155 rfl (by rw [ysV, if_pos e122_0] <;> rfl) rfl
    by_cases e122_1 : w = 1
    · refine r_look (pc := 122) (off := 34) 156 dX6_year_122 (by decide) (by rw [e122_1]; decide) (by decide) ?_
      refine r_aload_0 (pc := 156) dX6_year_156 ?_
      refine r_f_X6_ahead (pc := 157) fl_X6_39 dX6_year_157 ?_
      refine r_cV1_0 (pc := 160) ((ct_X0_countClaimed (by decide)).at sXa sXa) cv_X0_countClaimed ⟨Nat.le_of_ble_eq_true rfl, Nat.le_of_ble_eq_true rfl⟩ ml_X6_109 dX6_year_160 (by decide) rfl rfl rfl (Nat.le_of_ble_eq_true rfl) ?_
      refine r_iret (pc := 163) dX6_year_163 rfl (by rw [ysV, if_neg e122_0, if_pos e122_1] <;> rfl) rfl
    refine r_look (pc := 122) (off := 42) 164 dX6_year_122 (by decide) (by show Op.lookupswitch.offset [(0, 26), (1, 34)] 42 _ = _; rw [lv_osw e122_0 (by decide), lv_osw e122_1 (by decide)]; rfl) (by decide) ?_
    refine r_aload_0 (pc := 164) dX6_year_164 ?_
    refine r_f_X6_ahead (pc := 165) fl_X6_39 dX6_year_165 ?_
    refine r_cV1_0 (pc := 168) ((ct_X0_womansShare (by decide)).at sXa sXa) cv_X0_womansShare ⟨Nat.le_of_ble_eq_true rfl, Nat.le_of_ble_eq_true rfl⟩ ml_X6_133 dX6_year_168 (by decide) rfl rfl rfl (Nat.le_of_ble_eq_true rfl) ?_
    refine r_iret (pc := 171) dX6_year_171 rfl (by rw [ysV, if_neg e122_0, if_neg e122_1] <;> rfl) rfl
  | succ r ih =>
    intro j a c hj ha hT z1 z2
    have e1 : 75 * nI a + 74 - (75 * nI a + 74) / 65537 * 65537 = nI (yrA a) := by
      rw [yr_im]
      exact pk_rem (a := 75 * a + 74) (d := 65537) (by omega) (by decide) (by decide)
    have ha2 : yrA a < 65537 := Nat.mod_lt _ (by decide)
    have hm : yrA a % 6 < 6 := Nat.mod_lt _ (by decide)
    have h8 : yrA a / 6 % 8 < 8 := Nat.mod_lt _ (by decide)
    have e2 : nI (yrA a) - nI (yrA a) / 6 * 6 = nI (yrA a % 6) := pk_rem (a := yrA a) (d := 6) (by omega) (by decide) (by decide)
    have e3 : nI (yrA a) / 6 - nI (yrA a) / 6 / 8 * 8 = nI (yrA a / 6 % 8) := by
      rw [show nI (yrA a) / 6 = nI (yrA a / 6) from pk_div (a := yrA a) (d := 6) (by omega) (by decide) (by decide)]
      exact pk_rem (a := yrA a / 6) (d := 8) (by omega) (by decide) (by decide)
    have cR : Ct mX0_reasonAgainst [.ref 11, .int (nI (yrA a % 6)), .int (nI (yrA a / 6 % 8))] (wx h (S.sa c)) (some (.int (rsn c (nI (yrA a % 6)) (nI (yrA a / 6 % 8))))) (wx h (S.sa c)) := (ct_X0_reasonAgainst (c := c) (by decide) hT).at (sXa (S := S.sa c)) (sXa (S := S.sa c))
    have cP : rsn c (nI (yrA a % 6)) (nI (yrA a / 6 % 8)) = 0 → Ct mX0_perform [.ref 11, .int (nI (yrA a % 6)), .int (nI (yrA a / 6 % 8))] (wx h (S.sa c)) none (wx h (S.sa (ys1 c (yrA a)))) := fun h0 => by
      rw [ys1, if_pos h0]
      by_cases h6 : yrA a / 6 % 8 = 6
      · rw [if_pos h6, h6]
        exact (ct_X0_performN (c := c) (by decide)).at (sXa (S := S.sa c)) uXa
      · rw [if_neg h6]
        exact (ct_X0_perform (c := c) (by decide) hm (fun z => h6 ((nI_eq (a := yrA a / 6 % 8) (b := 6) (by omega) (by decide)).mp z)) hT).at (sXa (S := S.sa c)) uXa
    refine r_iload_5 (pc := 53) dX6_year_53 ?_
    refine r_iload_2 (pc := 55) dX6_year_55 ?_
    refine r_icmp_ge (pc := 56) 121 dX6_year_56 (by decide) (fun c56 => absurd c56 (nI_ge (a := j) (b := n) (by omega) (by omega))) (fun _ => ?_)
    refine r_bipush (pc := 59) 75 dX6_year_59 (by decide) ?_
    refine r_iload_4 (pc := 61) dX6_year_61 ?_
    refine r_imul (pc := 63) dX6_year_63 ?_
    refine r_bipush (pc := 64) 74 dX6_year_64 (by decide) ?_
    refine r_iadd (pc := 66) dX6_year_66 ?_
    refine r_ldcw (pc := 67) dX6_year_67 ki_X6_285 ?_
    refine r_irem (pc := 70) dX6_year_70 (by decide) ?_
    rw [e1]
    refine r_istore_4 (pc := 71) dX6_year_71 rfl (by decide) ?_
    refine r_iload_4 (pc := 73) dX6_year_73 ?_
    refine r_bipush (pc := 75) 6 dX6_year_75 (by decide) ?_
    refine r_irem (pc := 77) dX6_year_77 (by decide) ?_
    rw [e2]
    refine r_istore_6 (pc := 78) dX6_year_78 rfl (by decide) ?_
    refine r_iload_4 (pc := 80) dX6_year_80 ?_
    refine r_bipush (pc := 82) 6 dX6_year_82 (by decide) ?_
    refine r_idiv (pc := 84) dX6_year_84 (by decide) ?_
    refine r_bipush (pc := 85) 8 dX6_year_85 (by decide) ?_
    refine r_irem (pc := 87) dX6_year_87 (by decide) ?_
    rw [e3]
    refine r_istore_7 (pc := 88) dX6_year_88 rfl (by decide) ?_
    refine r_aload_0 (pc := 90) dX6_year_90 ?_
    refine r_f_X6_ahead (pc := 91) fl_X6_39 dX6_year_91 ?_
    refine r_iload_6 (pc := 94) dX6_year_94 ?_
    refine r_iload_7 (pc := 96) dX6_year_96 ?_
    refine r_cV1_2 (pc := 98) (cR) cv_X0_reasonAgainst ⟨Nat.le_of_ble_eq_true rfl, Nat.le_of_ble_eq_true rfl⟩ ml_X6_286 dX6_year_98 (by decide) rfl rfl rfl (Nat.le_of_ble_eq_true rfl) ?_
    refine r_if_ne (pc := 101) 115 dX6_year_101 (by decide) (fun c101 => ?_) (fun c101 => ?_)
    · refine r_inc_5 (pc := 115) dX6_year_115 rfl (by decide) ?_
      refine r_goto (pc := 118) 53 dX6_year_118 (by decide) ?_
      exact ((ih (j + 1) (yrA a) c (by omega) ha2 hT _ _).r (by rw [ysR, ys1, if_neg c101])).w2 (by rw [ysR, ys1, if_neg c101])
    · refine r_aload_0 (pc := 104) dX6_year_104 ?_
      refine r_f_X6_ahead (pc := 105) fl_X6_39 dX6_year_105 ?_
      refine r_iload_6 (pc := 108) dX6_year_108 ?_
      refine r_iload_7 (pc := 110) dX6_year_110 ?_
      refine r_cV0_2 (pc := 112) (cP c101) cv_X0_perform ⟨Nat.le_of_ble_eq_true rfl, Nat.le_of_ble_eq_true rfl⟩ ml_X6_289 dX6_year_112 (by decide) rfl rfl rfl (Nat.le_of_ble_eq_true rfl) ?_
      refine r_inc_5 (pc := 115) dX6_year_115 rfl (by decide) ?_
      refine r_goto (pc := 118) 53 dX6_year_118 (by decide) ?_
      exact ih (j + 1) (yrA a) (ys1 c (yrA a)) (by omega) ha2 (okT_ys1 hT) _ _
theorem ct_X6_yearB {h : Wd} {S : SG} {x y w : Int32} (hb : (inR x 0 9999 && (inR y 1 99 && inR w 0 2)) = false) : Ct mX6_year [.ref 0, .int x, .int y, .int w] (wx h S) (some (.int (-2))) (wx h S) := by
  refine Ct.of (Z := List.replicate 4 .null) (by decide) (Nat.le_of_ble_eq_true rfl) (fun z hz => List.eq_of_mem_replicate hz) ?_
  show WW mX6_year 0 [.ref 0, .int x, .int y, .int w, .null, .null, .null, .null] [] _ _ _
  refine r_iload_1 (pc := 0) dX6_year_0 ?_
  refine r_iconst (pc := 1) 0 dX6_year_1 (by decide) ?_
  refine r_sipush (pc := 2) 9999 dX6_year_2 (by decide) ?_
  refine r_cS1_3 (pc := 5) (ct_X6_isWithin) cs_X6_isWithin ⟨Nat.le_of_ble_eq_true rfl, Nat.le_of_ble_eq_true rfl⟩ ml_X6_60 dX6_year_5 rfl (Nat.le_of_ble_eq_true rfl) ?_
  refine r_if_eq (pc := 8) 30 dX6_year_8 (by decide) (fun c8 => ?_) (fun c8 => ?_)
  · refine r_bipush (pc := 30) (-2) dX6_year_30 (by decide) ?_
    refine r_iret (pc := 32) dX6_year_32 rfl (by first | rfl | simp_all [bI]) rfl
  · refine r_iload_2 (pc := 11) dX6_year_11 ?_
    refine r_iconst (pc := 12) 1 dX6_year_12 (by decide) ?_
    refine r_bipush (pc := 13) 99 dX6_year_13 (by decide) ?_
    refine r_cS1_3 (pc := 15) (ct_X6_isWithin) cs_X6_isWithin ⟨Nat.le_of_ble_eq_true rfl, Nat.le_of_ble_eq_true rfl⟩ ml_X6_60 dX6_year_15 rfl (Nat.le_of_ble_eq_true rfl) ?_
    refine r_if_eq (pc := 18) 30 dX6_year_18 (by decide) (fun c18 => ?_) (fun c18 => ?_)
    · refine r_bipush (pc := 30) (-2) dX6_year_30 (by decide) ?_
      refine r_iret (pc := 32) dX6_year_32 rfl (by first | rfl | simp_all [bI]) rfl
    · refine r_iload_3 (pc := 21) dX6_year_21 ?_
      refine r_iconst (pc := 22) 0 dX6_year_22 (by decide) ?_
      refine r_iconst (pc := 23) 2 dX6_year_23 (by decide) ?_
      refine r_cS1_3 (pc := 24) (ct_X6_isWithin) cs_X6_isWithin ⟨Nat.le_of_ble_eq_true rfl, Nat.le_of_ble_eq_true rfl⟩ ml_X6_60 dX6_year_24 rfl (Nat.le_of_ble_eq_true rfl) ?_
      refine r_if_ne (pc := 27) 33 dX6_year_27 (by decide) (fun c27 => ?_) (fun c27 => ?_)
      · exact absurd hb (by rw [bI_n0] at c8 c18 c27; rw [c8, c18, c27]; decide)
      · refine r_bipush (pc := 30) (-2) dX6_year_30 (by decide) ?_
        refine r_iret (pc := 32) dX6_year_32 rfl (by first | rfl | simp_all [bI]) rfl
theorem ct_X6_year {h : Wd} {S : SG} {a n : Nat} {w : Int32} (ha : a ≤ 9999) (h1 : 1 ≤ n) (h2 : n ≤ 99) (hw : inR w 0 2 = true) (hT : okT (wc_tents S.now.camp)) : Ct mX6_year [.ref 0, .int (nI a), .int (nI n), .int w] (wx h S) (some (.int (ysV (ysR (pwC S) a n) w))) (wx h (S.sa (ysR (pwC S) a n))) := by
  have hA : inR (nI a) 0 9999 = true := decide_eq_true ⟨nI_pos' (by omega), nI_le (a := a) (b := 9999) ha (by decide)⟩
  have hN : inR (nI n) 1 99 = true := decide_eq_true ⟨nI_le (a := 1) (b := n) h1 (by omega), nI_le (a := n) (b := 99) h2 (by decide)⟩
  have cA : Ct mX0_copyFrom [.ref 11, .ref 18] (wx h S) none (wx h (S.sa (pwC S))) := (ct_X0_copyFrom (k := 11) (k2 := 18) (by decide) (by decide) (by decide)).at (by rw [sXc1, sXa]) (by rw [sXc1, uXa]; rfl)
  have hT2 : okT (wc_tents (pwC S)) := by
    intro m hm
    have e : wc_tents (pwC S) m = wc_tents S.now.camp m := if_pos hm
    rw [e]
    exact hT m hm
  refine Ct.of (Z := List.replicate 4 .null) (by decide) (Nat.le_of_ble_eq_true rfl) (fun z hz => List.eq_of_mem_replicate hz) ?_
  show WW mX6_year 0 [.ref 0, .int (nI a), .int (nI n), .int w, .null, .null, .null, .null] [] _ _ _
  refine r_iload_1 (pc := 0) dX6_year_0 ?_
  refine r_iconst (pc := 1) 0 dX6_year_1 (by decide) ?_
  refine r_sipush (pc := 2) 9999 dX6_year_2 (by decide) ?_
  refine r_cS1_3 (pc := 5) (ct_X6_isWithin) cs_X6_isWithin ⟨Nat.le_of_ble_eq_true rfl, Nat.le_of_ble_eq_true rfl⟩ ml_X6_60 dX6_year_5 rfl (Nat.le_of_ble_eq_true rfl) ?_
  refine r_if_eq (pc := 8) 30 dX6_year_8 (by decide) (fun c8 => absurd c8 (by rw [hA]; decide)) (fun _ => ?_)
  refine r_iload_2 (pc := 11) dX6_year_11 ?_
  refine r_iconst (pc := 12) 1 dX6_year_12 (by decide) ?_
  refine r_bipush (pc := 13) 99 dX6_year_13 (by decide) ?_
  refine r_cS1_3 (pc := 15) (ct_X6_isWithin) cs_X6_isWithin ⟨Nat.le_of_ble_eq_true rfl, Nat.le_of_ble_eq_true rfl⟩ ml_X6_60 dX6_year_15 rfl (Nat.le_of_ble_eq_true rfl) ?_
  refine r_if_eq (pc := 18) 30 dX6_year_18 (by decide) (fun c18 => absurd c18 (by rw [hN]; decide)) (fun _ => ?_)
  refine r_iload_3 (pc := 21) dX6_year_21 ?_
  refine r_iconst (pc := 22) 0 dX6_year_22 (by decide) ?_
  refine r_iconst (pc := 23) 2 dX6_year_23 (by decide) ?_
  refine r_cS1_3 (pc := 24) (ct_X6_isWithin) cs_X6_isWithin ⟨Nat.le_of_ble_eq_true rfl, Nat.le_of_ble_eq_true rfl⟩ ml_X6_60 dX6_year_24 rfl (Nat.le_of_ble_eq_true rfl) ?_
  refine r_if_ne (pc := 27) 33 dX6_year_27 (by decide) (fun _ => ?_) (fun c27 => absurd c27 (by rw [hw]; decide))
  refine r_aload_0 (pc := 33) dX6_year_33 ?_
  refine r_f_X6_ahead (pc := 34) fl_X6_39 dX6_year_34 ?_
  refine r_aload_0 (pc := 37) dX6_year_37 ?_
  refine r_f_X6_now (pc := 38) fl_X6_10 dX6_year_38 ?_
  refine r_g_X1_camp (pc := 41) (List.mem_of_getElem? (i := 0) rfl) dX6_year_41 ?_
  refine r_cV0_1 (pc := 44) (cA) cv_X0_copyFrom ⟨Nat.le_of_ble_eq_true rfl, Nat.le_of_ble_eq_true rfl⟩ ml_X6_166 dX6_year_44 (by decide) rfl rfl rfl (Nat.le_of_ble_eq_true rfl) ?_
  refine r_iload_1 (pc := 47) dX6_year_47 ?_
  refine r_istore_4 (pc := 48) dX6_year_48 rfl (by decide) ?_
  refine r_iconst (pc := 50) 0 dX6_year_50 (by decide) ?_
  refine r_istore_5 (pc := 51) dX6_year_51 rfl (by decide) ?_
  exact lp_X6_year h2 n 0 a (pwC S) (by omega) (by omega) hT2 _ _
theorem ct_X6_imageOf {h : Wd} {S : SG} {i : Nat} (hi : i < 2) : Ct mX6_imageOf [.ref 0, .int (nI i)] (wx h S) (some (.ref (2 + i))) (wx h S) := by
  have : i = 0 ∨ i = 1 := by omega
  rcases this with rfl | rfl
  · skip
    refine Ct.of (Z := List.replicate 0 .null) (by decide) (Nat.le_of_ble_eq_true rfl) (fun z hz => List.eq_of_mem_replicate hz) ?_
    show WW mX6_imageOf 0 [.ref 0, .int (nI 0)] [] _ _ _
    refine r_iload_1 (pc := 0) dX6_imageOf_0 ?_
    refine r_if_ne (pc := 1) 11 dX6_imageOf_1 (by decide) (fun c1 => absurd (rfl) c1) (fun _ => ?_)
    refine r_aload_0 (pc := 4) dX6_imageOf_4 ?_
    refine r_f_X6_imageZero (pc := 5) fl_X6_16 dX6_imageOf_5 ?_
    refine r_goto (pc := 8) 15 dX6_imageOf_8 (by decide) ?_
    refine r_aret (pc := 15) dX6_imageOf_15 rfl (by first | rfl | simp_all [bI]) rfl
  · skip
    refine Ct.of (Z := List.replicate 0 .null) (by decide) (Nat.le_of_ble_eq_true rfl) (fun z hz => List.eq_of_mem_replicate hz) ?_
    show WW mX6_imageOf 0 [.ref 0, .int (nI 1)] [] _ _ _
    refine r_iload_1 (pc := 0) dX6_imageOf_0 ?_
    refine r_if_ne (pc := 1) 11 dX6_imageOf_1 (by decide) (fun _ => ?_) (fun c1 => absurd c1 (by decide))
    refine r_aload_0 (pc := 11) dX6_imageOf_11 ?_
    refine r_f_X6_imageOne (pc := 12) fl_X6_19 dX6_imageOf_12 ?_
    refine r_aret (pc := 15) dX6_imageOf_15 rfl (by first | rfl | simp_all [bI]) rfl
theorem ct_X6_imageB {h : Wd} {S : SG} {x : Int32} (hb : inR x 0 1 = false) : Ct mX6_image [.ref 0, .int x] (wx h S) (some (.int (-2))) (wx h S) := by
  refine Ct.of (Z := List.replicate 1 .null) (by decide) (Nat.le_of_ble_eq_true rfl) (fun z hz => List.eq_of_mem_replicate hz) ?_
  show WW mX6_image 0 [.ref 0, .int x, .null] [] _ _ _
  refine r_iload_1 (pc := 0) dX6_image_0 ?_
  refine r_cS1_1 (pc := 1) (ct_X6_isZeroOrOne) cs_X6_isZeroOrOne ⟨Nat.le_of_ble_eq_true rfl, Nat.le_of_ble_eq_true rfl⟩ ml_X6_157 dX6_image_1 rfl (Nat.le_of_ble_eq_true rfl) ?_
  refine r_if_ne (pc := 4) 10 dX6_image_4 (by decide) (fun c4 => absurd (by rw [is01_R, hb]; rfl) c4) (fun _ => ?_)
  refine r_bipush (pc := 7) (-2) dX6_image_7 (by decide) ?_
  refine r_iret (pc := 9) dX6_image_9 rfl (by first | rfl | simp_all [bI]) rfl
theorem in01 : ∀ i, i < 2 → inR (nI i) 0 1 = true := by decide
theorem ct_X6_image {h : Wd} {S : SG} {i : Nat} (hi : i < 2) : Ct mX6_image [.ref 0, .int (nI i)] (wx h S) (some (.int 1)) (wx h ((cmm S (2 + i) 1).sk (2 + i) 1)) := by
  have hp : 2 + i = 1 ∨ 2 + i = 2 ∨ 2 + i = 3 := by omega
  refine Ct.of (Z := List.replicate 1 .null) (by decide) (Nat.le_of_ble_eq_true rfl) (fun z hz => List.eq_of_mem_replicate hz) ?_
  show WW mX6_image 0 [.ref 0, .int (nI i), .null] [] _ _ _
  refine r_iload_1 (pc := 0) dX6_image_0 ?_
  refine r_cS1_1 (pc := 1) (ct_X6_isZeroOrOne) cs_X6_isZeroOrOne ⟨Nat.le_of_ble_eq_true rfl, Nat.le_of_ble_eq_true rfl⟩ ml_X6_157 dX6_image_1 rfl (Nat.le_of_ble_eq_true rfl) ?_
  refine r_if_ne (pc := 4) 10 dX6_image_4 (by decide) (fun _ => ?_) (fun c4 => absurd c4 (by rw [is01_R, in01 i hi]; decide))
  refine r_aload_0 (pc := 10) dX6_image_10 ?_
  refine r_iload_1 (pc := 11) dX6_image_11 ?_
  refine r_cV1_1 (pc := 12) (ct_X6_imageOf hi) cv_X6_imageOf ⟨Nat.le_of_ble_eq_true rfl, Nat.le_of_ble_eq_true rfl⟩ ml_X6_295 dX6_image_12 (by decide) rfl rfl rfl (Nat.le_of_ble_eq_true rfl) ?_
  refine r_astore_2 (pc := 15) dX6_image_15 rfl (by decide) ?_
  refine r_aload_2 (pc := 16) dX6_image_16 ?_
  refine r_aload_0 (pc := 17) dX6_image_17 ?_
  refine r_f_X6_now (pc := 18) fl_X6_10 dX6_image_18 ?_
  refine r_cV0_1 (pc := 21) (ct_X1_copyFrom (p2 := 1) hp (Or.inl rfl) (by omega)) cv_X1_copyFrom ⟨Nat.le_of_ble_eq_true rfl, Nat.le_of_ble_eq_true rfl⟩ ml_X6_299 dX6_image_21 (by omega) (oXm hp) rfl rfl (Nat.le_of_ble_eq_true rfl) ?_
  refine r_aload_2 (pc := 24) dX6_image_24 ?_
  refine r_cV0_0 (pc := 25) (ct_X1_markKept hp) cv_X1_markKept ⟨Nat.le_of_ble_eq_true rfl, Nat.le_of_ble_eq_true rfl⟩ ml_X6_302 dX6_image_25 (by omega) (oXm hp) rfl rfl (Nat.le_of_ble_eq_true rfl) ?_
  refine r_iconst (pc := 28) 1 dX6_image_28 (by decide) ?_
  refine r_iret (pc := 29) dX6_image_29 rfl (by first | rfl | simp_all [bI]) rfl
theorem ct_X6_restoreB {h : Wd} {S : SG} {x : Int32} (hb : inR x 0 1 = false) : Ct mX6_restore [.ref 0, .int x] (wx h S) (some (.int (-2))) (wx h S) := by
  refine Ct.of (Z := List.replicate 1 .null) (by decide) (Nat.le_of_ble_eq_true rfl) (fun z hz => List.eq_of_mem_replicate hz) ?_
  show WW mX6_restore 0 [.ref 0, .int x, .null] [] _ _ _
  refine r_iload_1 (pc := 0) dX6_restore_0 ?_
  refine r_cS1_1 (pc := 1) (ct_X6_isZeroOrOne) cs_X6_isZeroOrOne ⟨Nat.le_of_ble_eq_true rfl, Nat.le_of_ble_eq_true rfl⟩ ml_X6_157 dX6_restore_1 rfl (Nat.le_of_ble_eq_true rfl) ?_
  refine r_if_ne (pc := 4) 10 dX6_restore_4 (by decide) (fun c4 => absurd (by rw [is01_R, hb]; rfl) c4) (fun _ => ?_)
  refine r_bipush (pc := 7) (-2) dX6_restore_7 (by decide) ?_
  refine r_iret (pc := 9) dX6_restore_9 rfl (by first | rfl | simp_all [bI]) rfl
theorem ct_X6_restoreN {h : Wd} {S : SG} {i : Nat} (hi : i < 2) (hk : (S.mem (2 + i)).kept = bI false) : Ct mX6_restore [.ref 0, .int (nI i)] (wx h S) (some (.int (-3))) (wx h S) := by
  have hp : 2 + i = 1 ∨ 2 + i = 2 ∨ 2 + i = 3 := by omega
  refine Ct.of (Z := List.replicate 1 .null) (by decide) (Nat.le_of_ble_eq_true rfl) (fun z hz => List.eq_of_mem_replicate hz) ?_
  show WW mX6_restore 0 [.ref 0, .int (nI i), .null] [] _ _ _
  refine r_iload_1 (pc := 0) dX6_restore_0 ?_
  refine r_cS1_1 (pc := 1) (ct_X6_isZeroOrOne) cs_X6_isZeroOrOne ⟨Nat.le_of_ble_eq_true rfl, Nat.le_of_ble_eq_true rfl⟩ ml_X6_157 dX6_restore_1 rfl (Nat.le_of_ble_eq_true rfl) ?_
  refine r_if_ne (pc := 4) 10 dX6_restore_4 (by decide) (fun _ => ?_) (fun c4 => absurd c4 (by rw [is01_R, in01 i hi]; decide))
  refine r_aload_0 (pc := 10) dX6_restore_10 ?_
  refine r_iload_1 (pc := 11) dX6_restore_11 ?_
  refine r_cV1_1 (pc := 12) (ct_X6_imageOf hi) cv_X6_imageOf ⟨Nat.le_of_ble_eq_true rfl, Nat.le_of_ble_eq_true rfl⟩ ml_X6_295 dX6_restore_12 (by decide) rfl rfl rfl (Nat.le_of_ble_eq_true rfl) ?_
  refine r_astore_2 (pc := 15) dX6_restore_15 rfl (by decide) ?_
  refine r_aload_2 (pc := 16) dX6_restore_16 ?_
  refine r_cV1_0 (pc := 17) (ct_X1_isKept hp hk) cv_X1_isKept ⟨Nat.le_of_ble_eq_true rfl, Nat.le_of_ble_eq_true rfl⟩ ml_X6_305 dX6_restore_17 (by omega) (oXm hp) rfl rfl (Nat.le_of_ble_eq_true rfl) ?_
  refine r_if_ne (pc := 20) 26 dX6_restore_20 (by decide) (fun c20 => absurd (rfl) c20) (fun _ => ?_)
  refine r_bipush (pc := 23) (-3) dX6_restore_23 (by decide) ?_
  refine r_iret (pc := 25) dX6_restore_25 rfl (by first | rfl | simp_all [bI]) rfl
theorem ct_X6_restore {h : Wd} {S : SG} {i : Nat} (hi : i < 2) (hk : (S.mem (2 + i)).kept = bI true) : Ct mX6_restore [.ref 0, .int (nI i)] (wx h S) (some (.int 1)) (wx h (cmm S 1 (2 + i))) := by
  have hp : 2 + i = 1 ∨ 2 + i = 2 ∨ 2 + i = 3 := by omega
  refine Ct.of (Z := List.replicate 1 .null) (by decide) (Nat.le_of_ble_eq_true rfl) (fun z hz => List.eq_of_mem_replicate hz) ?_
  show WW mX6_restore 0 [.ref 0, .int (nI i), .null] [] _ _ _
  refine r_iload_1 (pc := 0) dX6_restore_0 ?_
  refine r_cS1_1 (pc := 1) (ct_X6_isZeroOrOne) cs_X6_isZeroOrOne ⟨Nat.le_of_ble_eq_true rfl, Nat.le_of_ble_eq_true rfl⟩ ml_X6_157 dX6_restore_1 rfl (Nat.le_of_ble_eq_true rfl) ?_
  refine r_if_ne (pc := 4) 10 dX6_restore_4 (by decide) (fun _ => ?_) (fun c4 => absurd c4 (by rw [is01_R, in01 i hi]; decide))
  refine r_aload_0 (pc := 10) dX6_restore_10 ?_
  refine r_iload_1 (pc := 11) dX6_restore_11 ?_
  refine r_cV1_1 (pc := 12) (ct_X6_imageOf hi) cv_X6_imageOf ⟨Nat.le_of_ble_eq_true rfl, Nat.le_of_ble_eq_true rfl⟩ ml_X6_295 dX6_restore_12 (by decide) rfl rfl rfl (Nat.le_of_ble_eq_true rfl) ?_
  refine r_astore_2 (pc := 15) dX6_restore_15 rfl (by decide) ?_
  refine r_aload_2 (pc := 16) dX6_restore_16 ?_
  refine r_cV1_0 (pc := 17) (ct_X1_isKept hp hk) cv_X1_isKept ⟨Nat.le_of_ble_eq_true rfl, Nat.le_of_ble_eq_true rfl⟩ ml_X6_305 dX6_restore_17 (by omega) (oXm hp) rfl rfl (Nat.le_of_ble_eq_true rfl) ?_
  refine r_if_ne (pc := 20) 26 dX6_restore_20 (by decide) (fun _ => ?_) (fun c20 => absurd c20 (by decide))
  refine r_aload_0 (pc := 26) dX6_restore_26 ?_
  refine r_f_X6_now (pc := 27) fl_X6_10 dX6_restore_27 ?_
  refine r_aload_2 (pc := 30) dX6_restore_30 ?_
  refine r_cV0_1 (pc := 31) (ct_X1_copyFrom (p := 1) (Or.inl rfl) hp (by omega)) cv_X1_copyFrom ⟨Nat.le_of_ble_eq_true rfl, Nat.le_of_ble_eq_true rfl⟩ ml_X6_299 dX6_restore_31 (by decide) rfl rfl rfl (Nat.le_of_ble_eq_true rfl) ?_
  refine r_iconst (pc := 34) 1 dX6_restore_34 (by decide) ?_
  refine r_iret (pc := 35) dX6_restore_35 rfl (by first | rfl | simp_all [bI]) rfl
theorem ct_X6_toldOfManB {h : Wd} {S : SG} {x y : Int32} (hb : hasB (wc_men S.now.camp) x = false) : Ct mX6_toldOfMan [.ref 0, .int x, .int y] (wx h S) (some (.int (-2))) (wx h S) := by
  refine Ct.of (Z := List.replicate 1 .null) (by decide) (Nat.le_of_ble_eq_true rfl) (fun z hz => List.eq_of_mem_replicate hz) ?_
  show WW mX6_toldOfMan 0 [.ref 0, .int x, .int y, .null] [] _ _ _
  refine r_aload_0 (pc := 0) dX6_toldOfMan_0 ?_
  refine r_f_X6_now (pc := 1) fl_X6_10 dX6_toldOfMan_1 ?_
  refine r_g_X1_camp (pc := 4) (List.mem_of_getElem? (i := 0) rfl) dX6_toldOfMan_4 ?_
  refine r_astore_3 (pc := 7) dX6_toldOfMan_7 rfl (by decide) ?_
  refine r_aload_3 (pc := 8) dX6_toldOfMan_8 ?_
  refine r_iload_1 (pc := 9) dX6_toldOfMan_9 ?_
  refine r_cV1_1 (pc := 10) ((ct_X0_isThere (by decide)).at sXc1 sXc1) cv_X0_isThere ⟨Nat.le_of_ble_eq_true rfl, Nat.le_of_ble_eq_true rfl⟩ ml_X6_85 dX6_toldOfMan_10 (by decide) rfl rfl rfl (Nat.le_of_ble_eq_true rfl) ?_
  refine r_if_ne (pc := 13) 19 dX6_toldOfMan_13 (by decide) (fun c13 => absurd (by rw [hb]; rfl) c13) (fun _ => ?_)
  refine r_bipush (pc := 16) (-2) dX6_toldOfMan_16 (by decide) ?_
  refine r_iret (pc := 18) dX6_toldOfMan_18 rfl (by first | rfl | simp_all [bI]) rfl
def tdM (c : Camp) (m : Nat) (y : Int32) : Int32 := if y = 0 then wc_tents c m else if y = 1 then snC c m else if y = 2 then wc_salts c m else if y = 3 then bI (bt (wc_withCold c) m) else if y = 4 then bI (bt (wc_whistling c) m) else if y = 5 then nI (cnt (kb (wc_known c m)) 64) else -2
theorem ct_X6_toldOfMan {h : Wd} {S : SG} {m : Nat} {y : Int32} (hm : m < 6) (hb : hasB (wc_men S.now.camp) (nI m) = true) : Ct mX6_toldOfMan [.ref 0, .int (nI m), .int y] (wx h S) (some (.int (tdM S.now.camp m y))) (wx h S) := by
  refine Ct.of (Z := List.replicate 1 .null) (by decide) (Nat.le_of_ble_eq_true rfl) (fun z hz => List.eq_of_mem_replicate hz) ?_
  show WW mX6_toldOfMan 0 [.ref 0, .int (nI m), .int y, .null] [] _ _ _
  refine r_aload_0 (pc := 0) dX6_toldOfMan_0 ?_
  refine r_f_X6_now (pc := 1) fl_X6_10 dX6_toldOfMan_1 ?_
  refine r_g_X1_camp (pc := 4) (List.mem_of_getElem? (i := 0) rfl) dX6_toldOfMan_4 ?_
  refine r_astore_3 (pc := 7) dX6_toldOfMan_7 rfl (by decide) ?_
  refine r_aload_3 (pc := 8) dX6_toldOfMan_8 ?_
  refine r_iload_1 (pc := 9) dX6_toldOfMan_9 ?_
  refine r_cV1_1 (pc := 10) ((ct_X0_isThere (by decide)).at sXc1 sXc1) cv_X0_isThere ⟨Nat.le_of_ble_eq_true rfl, Nat.le_of_ble_eq_true rfl⟩ ml_X6_85 dX6_toldOfMan_10 (by decide) rfl rfl rfl (Nat.le_of_ble_eq_true rfl) ?_
  refine r_if_ne (pc := 13) 19 dX6_toldOfMan_13 (by decide) (fun _ => ?_) (fun c13 => absurd c13 (by rw [hb]; decide))
  refine r_iload_2 (pc := 19) dX6_toldOfMan_19 ?_
  by_cases e20_0 : y = 0
  · refine r_tabIn (pc := 20) (off := 40) 0 60 dX6_toldOfMan_20 (by rw [e20_0]; decide) (by decide) (by decide) rfl (by decide) ?_
    refine r_aload_3 (pc := 60) dX6_toldOfMan_60 ?_
    refine r_iload_1 (pc := 61) dX6_toldOfMan_61 ?_
    refine r_cV1_1 (pc := 62) ((ct_X0_tentOf (by decide) hm).at sXc1 sXc1) cv_X0_tentOf ⟨Nat.le_of_ble_eq_true rfl, Nat.le_of_ble_eq_true rfl⟩ ml_X6_136 dX6_toldOfMan_62 (by decide) rfl rfl rfl (Nat.le_of_ble_eq_true rfl) ?_
    refine r_iret (pc := 65) dX6_toldOfMan_65 rfl (by rw [tdM, if_pos e20_0]) rfl
  by_cases e20_1 : y = 1
  · refine r_tabIn (pc := 20) (off := 46) 1 66 dX6_toldOfMan_20 (by rw [e20_1]; decide) (by decide) (by decide) rfl (by decide) ?_
    refine r_aload_3 (pc := 66) dX6_toldOfMan_66 ?_
    refine r_iload_1 (pc := 67) dX6_toldOfMan_67 ?_
    refine r_cV1_1 (pc := 68) ((ct_X0_snoreOf (by decide) hm).at sXc1 sXc1) cv_X0_snoreOf ⟨Nat.le_of_ble_eq_true rfl, Nat.le_of_ble_eq_true rfl⟩ ml_X6_139 dX6_toldOfMan_68 (by decide) rfl rfl rfl (Nat.le_of_ble_eq_true rfl) ?_
    refine r_iret (pc := 71) dX6_toldOfMan_71 rfl (by rw [tdM, if_neg e20_0, if_pos e20_1]) rfl
  by_cases e20_2 : y = 2
  · refine r_tabIn (pc := 20) (off := 52) 2 72 dX6_toldOfMan_20 (by rw [e20_2]; decide) (by decide) (by decide) rfl (by decide) ?_
    refine r_aload_3 (pc := 72) dX6_toldOfMan_72 ?_
    refine r_iload_1 (pc := 73) dX6_toldOfMan_73 ?_
    refine r_cV1_1 (pc := 74) ((ct_X0_saltOf (by decide) hm).at sXc1 sXc1) cv_X0_saltOf ⟨Nat.le_of_ble_eq_true rfl, Nat.le_of_ble_eq_true rfl⟩ ml_X6_142 dX6_toldOfMan_74 (by decide) rfl rfl rfl (Nat.le_of_ble_eq_true rfl) ?_
    refine r_iret (pc := 77) dX6_toldOfMan_77 rfl (by rw [tdM, if_neg e20_0, if_neg e20_1, if_pos e20_2]) rfl
  by_cases e20_3 : y = 3
  · refine r_tabIn (pc := 20) (off := 58) 3 78 dX6_toldOfMan_20 (by rw [e20_3]; decide) (by decide) (by decide) rfl (by decide) ?_
    refine r_aload_3 (pc := 78) dX6_toldOfMan_78 ?_
    refine r_iload_1 (pc := 79) dX6_toldOfMan_79 ?_
    refine r_cV1_1 (pc := 80) ((ct_X0_hasCold (by decide)).at sXc1 sXc1) cv_X0_hasCold ⟨Nat.le_of_ble_eq_true rfl, Nat.le_of_ble_eq_true rfl⟩ ml_X6_317 dX6_toldOfMan_80 (by decide) rfl rfl rfl (Nat.le_of_ble_eq_true rfl) ?_
    refine r_if_eq (pc := 83) 90 dX6_toldOfMan_83 (by decide) (fun c83 => ?_) (fun c83 => ?_)
    · refine r_iconst (pc := 90) 0 dX6_toldOfMan_90 (by decide) ?_
      refine r_iret (pc := 91) dX6_toldOfMan_91 rfl (by rw [hasB_n hm, bI_0] at c83; rw [tdM, if_neg e20_0, if_neg e20_1, if_neg e20_2, if_pos e20_3, c83]; rfl) rfl
    · refine r_iconst (pc := 86) 1 dX6_toldOfMan_86 (by decide) ?_
      refine r_goto (pc := 87) 91 dX6_toldOfMan_87 (by decide) ?_
      refine r_iret (pc := 91) dX6_toldOfMan_91 rfl (by rw [hasB_n hm, bI_n0] at c83; rw [tdM, if_neg e20_0, if_neg e20_1, if_neg e20_2, if_pos e20_3, c83]; rfl) rfl
  by_cases e20_4 : y = 4
  · refine r_tabIn (pc := 20) (off := 72) 4 92 dX6_toldOfMan_20 (by rw [e20_4]; decide) (by decide) (by decide) rfl (by decide) ?_
    refine r_aload_3 (pc := 92) dX6_toldOfMan_92 ?_
    refine r_iload_1 (pc := 93) dX6_toldOfMan_93 ?_
    refine r_cV1_1 (pc := 94) ((ct_X0_isWhistling (by decide)).at sXc1 sXc1) cv_X0_isWhistling ⟨Nat.le_of_ble_eq_true rfl, Nat.le_of_ble_eq_true rfl⟩ ml_X6_320 dX6_toldOfMan_94 (by decide) rfl rfl rfl (Nat.le_of_ble_eq_true rfl) ?_
    refine r_if_eq (pc := 97) 104 dX6_toldOfMan_97 (by decide) (fun c97 => ?_) (fun c97 => ?_)
    · refine r_iconst (pc := 104) 0 dX6_toldOfMan_104 (by decide) ?_
      refine r_iret (pc := 105) dX6_toldOfMan_105 rfl (by rw [hasB_n hm, bI_0] at c97; rw [tdM, if_neg e20_0, if_neg e20_1, if_neg e20_2, if_neg e20_3, if_pos e20_4, c97]; rfl) rfl
    · refine r_iconst (pc := 100) 1 dX6_toldOfMan_100 (by decide) ?_
      refine r_goto (pc := 101) 105 dX6_toldOfMan_101 (by decide) ?_
      refine r_iret (pc := 105) dX6_toldOfMan_105 rfl (by rw [hasB_n hm, bI_n0] at c97; rw [tdM, if_neg e20_0, if_neg e20_1, if_neg e20_2, if_neg e20_3, if_pos e20_4, c97]; rfl) rfl
  by_cases e20_5 : y = 5
  · refine r_tabIn (pc := 20) (off := 86) 5 106 dX6_toldOfMan_20 (by rw [e20_5]; decide) (by decide) (by decide) rfl (by decide) ?_
    refine r_aload_3 (pc := 106) dX6_toldOfMan_106 ?_
    refine r_iload_1 (pc := 107) dX6_toldOfMan_107 ?_
    refine r_cV1_1 (pc := 108) ((ct_X0_knownTo (by decide) hm).at sXc1 sXc1) cv_X0_knownTo ⟨Nat.le_of_ble_eq_true rfl, Nat.le_of_ble_eq_true rfl⟩ ml_X6_96 dX6_toldOfMan_108 (by decide) rfl rfl rfl (Nat.le_of_ble_eq_true rfl) ?_
    refine r_cS1_1 (pc := 111) (ct_J13_bitCount_95d88) cs_J13_bitCount_95d88 ⟨Nat.le_of_ble_eq_true rfl, Nat.le_of_ble_eq_true rfl⟩ ml_X6_100 dX6_toldOfMan_111 rfl (Nat.le_of_ble_eq_true rfl) ?_
    refine r_iret (pc := 114) dX6_toldOfMan_114 rfl (by rw [tdM, if_neg e20_0, if_neg e20_1, if_neg e20_2, if_neg e20_3, if_neg e20_4, if_pos e20_5]) rfl
  refine r_tabOut (pc := 20) 115 dX6_toldOfMan_20 (by have z0 := lv_neT (a := 0) e20_0 (by decide); have z1 := lv_neT (a := 1) e20_1 (by decide); have z2 := lv_neT (a := 2) e20_2 (by decide); have z3 := lv_neT (a := 3) e20_3 (by decide); have z4 := lv_neT (a := 4) e20_4 (by decide); have z5 := lv_neT (a := 5) e20_5 (by decide); omega) (by decide) ?_
  refine r_bipush (pc := 115) (-2) dX6_toldOfMan_115 (by decide) ?_
  refine r_iret (pc := 117) dX6_toldOfMan_117 rfl (by rw [tdM, if_neg e20_0, if_neg e20_1, if_neg e20_2, if_neg e20_3, if_neg e20_4, if_neg e20_5]) rfl
theorem ct_X6_toldOfCellB {h : Wd} {S : SG} {x : Int32} (hb : isC x = false) : Ct mX6_toldOfCell [.ref 0, .int x] (wx h S) (some (.int (-2))) (wx h S) := by
  refine Ct.of (Z := List.replicate 1 .null) (by decide) (Nat.le_of_ble_eq_true rfl) (fun z hz => List.eq_of_mem_replicate hz) ?_
  show WW mX6_toldOfCell 0 [.ref 0, .int x, .null] [] _ _ _
  refine r_iload_1 (pc := 0) dX6_toldOfCell_0 ?_
  refine r_cS1_1 (pc := 1) (ct_X6_isCell) cs_X6_isCell ⟨Nat.le_of_ble_eq_true rfl, Nat.le_of_ble_eq_true rfl⟩ ml_X6_56 dX6_toldOfCell_1 rfl (Nat.le_of_ble_eq_true rfl) ?_
  refine r_if_ne (pc := 4) 10 dX6_toldOfCell_4 (by decide) (fun c4 => absurd (by rw [hb]; rfl) c4) (fun _ => ?_)
  refine r_bipush (pc := 7) (-2) dX6_toldOfCell_7 (by decide) ?_
  refine r_iret (pc := 9) dX6_toldOfCell_9 rfl (by first | rfl | simp_all [bI]) rfl
def tdC (c : Camp) (j : Nat) : Int32 := 10 * wc_goldOn c j + (if wc_claimers c j = -1 then 9 else wc_claimers c j)
theorem ct_X6_toldOfCell {h : Wd} {S : SG} {j : Nat} (hj : j < 64) : Ct mX6_toldOfCell [.ref 0, .int (nI j)] (wx h S) (some (.int (tdC S.now.camp j))) (wx h S) := by
  refine Ct.of (Z := List.replicate 1 .null) (by decide) (Nat.le_of_ble_eq_true rfl) (fun z hz => List.eq_of_mem_replicate hz) ?_
  show WW mX6_toldOfCell 0 [.ref 0, .int (nI j), .null] [] _ _ _
  refine r_iload_1 (pc := 0) dX6_toldOfCell_0 ?_
  refine r_cS1_1 (pc := 1) (ct_X6_isCell) cs_X6_isCell ⟨Nat.le_of_ble_eq_true rfl, Nat.le_of_ble_eq_true rfl⟩ ml_X6_56 dX6_toldOfCell_1 rfl (Nat.le_of_ble_eq_true rfl) ?_
  refine r_if_ne (pc := 4) 10 dX6_toldOfCell_4 (by decide) (fun _ => ?_) (fun c4 => absurd c4 (by rw [isC_n hj]; decide))
  refine r_aload_0 (pc := 10) dX6_toldOfCell_10 ?_
  refine r_f_X6_now (pc := 11) fl_X6_10 dX6_toldOfCell_11 ?_
  refine r_g_X1_camp (pc := 14) (List.mem_of_getElem? (i := 0) rfl) dX6_toldOfCell_14 ?_
  refine r_iload_1 (pc := 17) dX6_toldOfCell_17 ?_
  refine r_cV1_1 (pc := 18) ((ct_X0_claimerOf (by decide) hj).at sXc1 sXc1) cv_X0_claimerOf ⟨Nat.le_of_ble_eq_true rfl, Nat.le_of_ble_eq_true rfl⟩ ml_X6_154 dX6_toldOfCell_18 (by decide) rfl rfl rfl (Nat.le_of_ble_eq_true rfl) ?_
  refine r_istore_2 (pc := 21) dX6_toldOfCell_21 rfl (by decide) ?_
  refine r_bipush (pc := 22) 10 dX6_toldOfCell_22 (by decide) ?_
  refine r_aload_0 (pc := 24) dX6_toldOfCell_24 ?_
  refine r_f_X6_now (pc := 25) fl_X6_10 dX6_toldOfCell_25 ?_
  refine r_g_X1_camp (pc := 28) (List.mem_of_getElem? (i := 0) rfl) dX6_toldOfCell_28 ?_
  refine r_iload_1 (pc := 31) dX6_toldOfCell_31 ?_
  refine r_cV1_1 (pc := 32) ((ct_X0_goldOf (by decide) hj).at sXc1 sXc1) cv_X0_goldOf ⟨Nat.le_of_ble_eq_true rfl, Nat.le_of_ble_eq_true rfl⟩ ml_X6_67 dX6_toldOfCell_32 (by decide) rfl rfl rfl (Nat.le_of_ble_eq_true rfl) ?_
  refine r_imul (pc := 35) dX6_toldOfCell_35 ?_
  refine r_iload_2 (pc := 36) dX6_toldOfCell_36 ?_
  refine r_iconst (pc := 37) (-1) dX6_toldOfCell_37 (by decide) ?_
  refine r_icmp_ne (pc := 38) 46 dX6_toldOfCell_38 (by decide) (fun c38 => ?_) (fun c38 => ?_)
  · refine r_iload_2 (pc := 46) dX6_toldOfCell_46 ?_
    refine r_iadd (pc := 47) dX6_toldOfCell_47 ?_
    refine r_iret (pc := 48) dX6_toldOfCell_48 rfl (by rw [tdC, if_neg c38]) rfl
  · refine r_bipush (pc := 41) 9 dX6_toldOfCell_41 (by decide) ?_
    refine r_goto (pc := 43) 47 dX6_toldOfCell_43 (by decide) ?_
    refine r_iadd (pc := 47) dX6_toldOfCell_47 ?_
    refine r_iret (pc := 48) dX6_toldOfCell_48 rfl (by rw [tdC, if_pos c38]) rfl
theorem ct_X6_toldOfKnownB {h : Wd} {S : SG} {x y : Int32} (hb : hasB (wc_men S.now.camp) x = false ∨ isC y = false) : Ct mX6_toldOfKnown [.ref 0, .int x, .int y] (wx h S) (some (.int (-2))) (wx h S) := by
  refine Ct.of (Z := List.replicate 0 .null) (by decide) (Nat.le_of_ble_eq_true rfl) (fun z hz => List.eq_of_mem_replicate hz) ?_
  show WW mX6_toldOfKnown 0 [.ref 0, .int x, .int y] [] _ _ _
  refine r_aload_0 (pc := 0) dX6_toldOfKnown_0 ?_
  refine r_f_X6_now (pc := 1) fl_X6_10 dX6_toldOfKnown_1 ?_
  refine r_g_X1_camp (pc := 4) (List.mem_of_getElem? (i := 0) rfl) dX6_toldOfKnown_4 ?_
  refine r_iload_1 (pc := 7) dX6_toldOfKnown_7 ?_
  refine r_cV1_1 (pc := 8) ((ct_X0_isThere (by decide)).at sXc1 sXc1) cv_X0_isThere ⟨Nat.le_of_ble_eq_true rfl, Nat.le_of_ble_eq_true rfl⟩ ml_X6_85 dX6_toldOfKnown_8 (by decide) rfl rfl rfl (Nat.le_of_ble_eq_true rfl) ?_
  refine r_if_eq (pc := 11) 21 dX6_toldOfKnown_11 (by decide) (fun c11 => ?_) (fun c11 => ?_)
  · refine r_bipush (pc := 21) (-2) dX6_toldOfKnown_21 (by decide) ?_
    refine r_iret (pc := 23) dX6_toldOfKnown_23 rfl (by first | rfl | simp_all [bI]) rfl
  · refine r_iload_2 (pc := 14) dX6_toldOfKnown_14 ?_
    refine r_cS1_1 (pc := 15) (ct_X6_isCell) cs_X6_isCell ⟨Nat.le_of_ble_eq_true rfl, Nat.le_of_ble_eq_true rfl⟩ ml_X6_56 dX6_toldOfKnown_15 rfl (Nat.le_of_ble_eq_true rfl) ?_
    refine r_if_ne (pc := 18) 24 dX6_toldOfKnown_18 (by decide) (fun c18 => ?_) (fun c18 => ?_)
    · exact absurd hb (by rw [bI_n0] at c11 c18; rw [c11, c18]; decide)
    · refine r_bipush (pc := 21) (-2) dX6_toldOfKnown_21 (by decide) ?_
      refine r_iret (pc := 23) dX6_toldOfKnown_23 rfl (by first | rfl | simp_all [bI]) rfl
theorem ct_X6_toldOfKnown {h : Wd} {S : SG} {m j : Nat} (hm : m < 6) (hb : hasB (wc_men S.now.camp) (nI m) = true) (hj : j < 64) : Ct mX6_toldOfKnown [.ref 0, .int (nI m), .int (nI j)] (wx h S) (some (.int (bI (kb (wc_known S.now.camp m) j)))) (wx h S) := by
  refine Ct.of (Z := List.replicate 0 .null) (by decide) (Nat.le_of_ble_eq_true rfl) (fun z hz => List.eq_of_mem_replicate hz) ?_
  show WW mX6_toldOfKnown 0 [.ref 0, .int (nI m), .int (nI j)] [] _ _ _
  refine r_aload_0 (pc := 0) dX6_toldOfKnown_0 ?_
  refine r_f_X6_now (pc := 1) fl_X6_10 dX6_toldOfKnown_1 ?_
  refine r_g_X1_camp (pc := 4) (List.mem_of_getElem? (i := 0) rfl) dX6_toldOfKnown_4 ?_
  refine r_iload_1 (pc := 7) dX6_toldOfKnown_7 ?_
  refine r_cV1_1 (pc := 8) ((ct_X0_isThere (by decide)).at sXc1 sXc1) cv_X0_isThere ⟨Nat.le_of_ble_eq_true rfl, Nat.le_of_ble_eq_true rfl⟩ ml_X6_85 dX6_toldOfKnown_8 (by decide) rfl rfl rfl (Nat.le_of_ble_eq_true rfl) ?_
  refine r_if_eq (pc := 11) 21 dX6_toldOfKnown_11 (by decide) (fun c11 => absurd c11 (by rw [hb]; decide)) (fun _ => ?_)
  refine r_iload_2 (pc := 14) dX6_toldOfKnown_14 ?_
  refine r_cS1_1 (pc := 15) (ct_X6_isCell) cs_X6_isCell ⟨Nat.le_of_ble_eq_true rfl, Nat.le_of_ble_eq_true rfl⟩ ml_X6_56 dX6_toldOfKnown_15 rfl (Nat.le_of_ble_eq_true rfl) ?_
  refine r_if_ne (pc := 18) 24 dX6_toldOfKnown_18 (by decide) (fun _ => ?_) (fun c18 => absurd c18 (by rw [isC_n hj]; decide))
  refine r_aload_0 (pc := 24) dX6_toldOfKnown_24 ?_
  refine r_f_X6_now (pc := 25) fl_X6_10 dX6_toldOfKnown_25 ?_
  refine r_g_X1_camp (pc := 28) (List.mem_of_getElem? (i := 0) rfl) dX6_toldOfKnown_28 ?_
  refine r_iload_1 (pc := 31) dX6_toldOfKnown_31 ?_
  refine r_iload_2 (pc := 32) dX6_toldOfKnown_32 ?_
  refine r_cV1_2 (pc := 33) ((ct_X0_isKnownTo (by decide) hm hj).at sXc1 sXc1) cv_X0_isKnownTo ⟨Nat.le_of_ble_eq_true rfl, Nat.le_of_ble_eq_true rfl⟩ ml_X6_323 dX6_toldOfKnown_33 (by decide) rfl rfl rfl (Nat.le_of_ble_eq_true rfl) ?_
  refine r_if_eq (pc := 36) 43 dX6_toldOfKnown_36 (by decide) (fun c36 => ?_) (fun c36 => ?_)
  · refine r_iconst (pc := 43) 0 dX6_toldOfKnown_43 (by decide) ?_
    refine r_iret (pc := 44) dX6_toldOfKnown_44 rfl (by rw [bI_0] at c36; rw [show kb (wc_known S.now.camp m) j = false from c36]; rfl) rfl
  · refine r_iconst (pc := 39) 1 dX6_toldOfKnown_39 (by decide) ?_
    refine r_goto (pc := 40) 44 dX6_toldOfKnown_40 (by decide) ?_
    refine r_iret (pc := 44) dX6_toldOfKnown_44 rfl (by rw [bI_n0] at c36; rw [show kb (wc_known S.now.camp m) j = true from c36]; rfl) rfl
theorem nI_sub {a b : Nat} (h : b ≤ a) : nI a - nI b = nI (a - b) := by
  obtain ⟨c, rfl⟩ := Nat.exists_eq_add_of_le h
  rw [Nat.add_sub_cancel_left, ← nI_add, Int32.add_comm, Int32.add_sub_cancel]
theorem ct_X6_toldM {h : Wd} {S : SG} {n : Nat} {v : Int32} (h1 : 10 ≤ n) (h2 : n ≤ 99) (hv : Ct mX6_toldOfMan [.ref 0, .int (nI (n / 10 - 1)), .int (nI (n % 10))] (wx h S) (some (.int v)) (wx h S)) : Ct mX6_told [.ref 0, .int (nI n)] (wx h S) (some (.int v)) (wx h S) := by
  have e1 : nI n / 10 - 1 = nI (n / 10 - 1) := by
    rw [show nI n / 10 = nI (n / 10) from pk_div (a := n) (d := 10) (by omega) (by decide) (by decide)]
    exact nI_sub (a := n / 10) (b := 1) (by omega)
  have e2 : nI n - nI n / 10 * 10 = nI (n % 10) := pk_rem (a := n) (d := 10) (by omega) (by decide) (by decide)
  have ti := nI_toInt (n := n) (by omega)
  have hA : inR (nI n) 10 99 = true := decide_eq_true ⟨nI_le (a := 10) (b := n) h1 (by omega), nI_le (a := n) (b := 99) h2 (by decide)⟩
  refine Ct.of (Z := List.replicate 0 .null) (by decide) (Nat.le_of_ble_eq_true rfl) (fun z hz => List.eq_of_mem_replicate hz) ?_
  show WW mX6_told 0 [.ref 0, .int (nI n)] [] _ _ _
  refine r_iload_1 (pc := 0) dX6_told_0 ?_
  refine r_tabOut (pc := 1) 73 dX6_told_1 (by rw [ti]; omega) (by decide) ?_
  refine r_iload_1 (pc := 73) dX6_told_73 ?_
  refine r_bipush (pc := 74) 10 dX6_told_74 (by decide) ?_
  refine r_bipush (pc := 76) 99 dX6_told_76 (by decide) ?_
  refine r_cS1_3 (pc := 78) (ct_X6_isWithin) cs_X6_isWithin ⟨Nat.le_of_ble_eq_true rfl, Nat.le_of_ble_eq_true rfl⟩ ml_X6_60 dX6_told_78 rfl (Nat.le_of_ble_eq_true rfl) ?_
  refine r_if_eq (pc := 81) 99 dX6_told_81 (by decide) (fun c81 => absurd c81 (by rw [hA]; decide)) (fun _ => ?_)
  refine r_aload_0 (pc := 84) dX6_told_84 ?_
  refine r_iload_1 (pc := 85) dX6_told_85 ?_
  refine r_bipush (pc := 86) 10 dX6_told_86 (by decide) ?_
  refine r_idiv (pc := 88) dX6_told_88 (by decide) ?_
  refine r_iconst (pc := 89) 1 dX6_told_89 (by decide) ?_
  refine r_isub (pc := 90) dX6_told_90 ?_
  rw [e1]
  refine r_iload_1 (pc := 91) dX6_told_91 ?_
  refine r_bipush (pc := 92) 10 dX6_told_92 (by decide) ?_
  refine r_irem (pc := 94) dX6_told_94 (by decide) ?_
  rw [e2]
  refine r_cV1_2 (pc := 95) (hv) cv_X6_toldOfMan ⟨Nat.le_of_ble_eq_true rfl, Nat.le_of_ble_eq_true rfl⟩ ml_X6_308 dX6_told_95 (by decide) rfl rfl rfl (Nat.le_of_ble_eq_true rfl) ?_
  refine r_iret (pc := 98) dX6_told_98 rfl (by first | rfl | simp_all [bI]) rfl
theorem ct_X6_toldC {h : Wd} {S : SG} {n : Nat} {v : Int32} (h1 : 100 ≤ n) (h2 : n ≤ 199) (hv : Ct mX6_toldOfCell [.ref 0, .int (nI (n - 100))] (wx h S) (some (.int v)) (wx h S)) : Ct mX6_told [.ref 0, .int (nI n)] (wx h S) (some (.int v)) (wx h S) := by
  have e1 : nI n - 100 = nI (n - 100) := nI_sub (a := n) (b := 100) h1
  have ti := nI_toInt (n := n) (by omega)
  have hA : inR (nI n) 10 99 = false := decide_eq_false (fun z => absurd z.2 (nI_ge (a := 99) (b := n) (by omega) (by omega)))
  have hB : inR (nI n) 100 199 = true := decide_eq_true ⟨nI_le (a := 100) (b := n) h1 (by omega), nI_le (a := n) (b := 199) h2 (by decide)⟩
  refine Ct.of (Z := List.replicate 0 .null) (by decide) (Nat.le_of_ble_eq_true rfl) (fun z hz => List.eq_of_mem_replicate hz) ?_
  show WW mX6_told 0 [.ref 0, .int (nI n)] [] _ _ _
  refine r_iload_1 (pc := 0) dX6_told_0 ?_
  refine r_tabOut (pc := 1) 73 dX6_told_1 (by rw [ti]; omega) (by decide) ?_
  refine r_iload_1 (pc := 73) dX6_told_73 ?_
  refine r_bipush (pc := 74) 10 dX6_told_74 (by decide) ?_
  refine r_bipush (pc := 76) 99 dX6_told_76 (by decide) ?_
  refine r_cS1_3 (pc := 78) (ct_X6_isWithin) cs_X6_isWithin ⟨Nat.le_of_ble_eq_true rfl, Nat.le_of_ble_eq_true rfl⟩ ml_X6_60 dX6_told_78 rfl (Nat.le_of_ble_eq_true rfl) ?_
  refine r_if_eq (pc := 81) 99 dX6_told_81 (by decide) (fun _ => ?_) (fun c81 => absurd (by rw [hA]; rfl) (c81))
  refine r_iload_1 (pc := 99) dX6_told_99 ?_
  refine r_bipush (pc := 100) 100 dX6_told_100 (by decide) ?_
  refine r_sipush (pc := 102) 199 dX6_told_102 (by decide) ?_
  refine r_cS1_3 (pc := 105) (ct_X6_isWithin) cs_X6_isWithin ⟨Nat.le_of_ble_eq_true rfl, Nat.le_of_ble_eq_true rfl⟩ ml_X6_60 dX6_told_105 rfl (Nat.le_of_ble_eq_true rfl) ?_
  refine r_if_eq (pc := 108) 120 dX6_told_108 (by decide) (fun c108 => absurd c108 (by rw [hB]; decide)) (fun _ => ?_)
  refine r_aload_0 (pc := 111) dX6_told_111 ?_
  refine r_iload_1 (pc := 112) dX6_told_112 ?_
  refine r_bipush (pc := 113) 100 dX6_told_113 (by decide) ?_
  refine r_isub (pc := 115) dX6_told_115 ?_
  rw [e1]
  refine r_cV1_1 (pc := 116) (hv) cv_X6_toldOfCell ⟨Nat.le_of_ble_eq_true rfl, Nat.le_of_ble_eq_true rfl⟩ ml_X6_311 dX6_told_116 (by decide) rfl rfl rfl (Nat.le_of_ble_eq_true rfl) ?_
  refine r_iret (pc := 119) dX6_told_119 rfl (by first | rfl | simp_all [bI]) rfl
theorem ct_X6_toldK {h : Wd} {S : SG} {n : Nat} {v : Int32} (h1 : 200 ≤ n) (h2 : n < 2 ^ 31) (hv : Ct mX6_toldOfKnown [.ref 0, .int (nI (n / 200 - 1)), .int (nI (n % 200))] (wx h S) (some (.int v)) (wx h S)) : Ct mX6_told [.ref 0, .int (nI n)] (wx h S) (some (.int v)) (wx h S) := by
  have e1 : nI n / 200 - 1 = nI (n / 200 - 1) := by
    rw [show nI n / 200 = nI (n / 200) from pk_div (a := n) (d := 200) (by omega) (by decide) (by decide)]
    exact nI_sub (a := n / 200) (b := 1) (by omega)
  have e2 : nI n - nI n / 200 * 200 = nI (n % 200) := pk_rem (a := n) (d := 200) (by omega) (by decide) (by decide)
  have ti := nI_toInt (n := n) (by omega)
  have hA : inR (nI n) 10 99 = false := decide_eq_false (fun z => absurd z.2 (nI_ge (a := 99) (b := n) (by omega) (by omega)))
  have hB : inR (nI n) 100 199 = false := decide_eq_false (fun z => absurd z.2 (nI_ge (a := 199) (b := n) (by omega) (by omega)))
  refine Ct.of (Z := List.replicate 0 .null) (by decide) (Nat.le_of_ble_eq_true rfl) (fun z hz => List.eq_of_mem_replicate hz) ?_
  show WW mX6_told 0 [.ref 0, .int (nI n)] [] _ _ _
  refine r_iload_1 (pc := 0) dX6_told_0 ?_
  refine r_tabOut (pc := 1) 73 dX6_told_1 (by rw [ti]; omega) (by decide) ?_
  refine r_iload_1 (pc := 73) dX6_told_73 ?_
  refine r_bipush (pc := 74) 10 dX6_told_74 (by decide) ?_
  refine r_bipush (pc := 76) 99 dX6_told_76 (by decide) ?_
  refine r_cS1_3 (pc := 78) (ct_X6_isWithin) cs_X6_isWithin ⟨Nat.le_of_ble_eq_true rfl, Nat.le_of_ble_eq_true rfl⟩ ml_X6_60 dX6_told_78 rfl (Nat.le_of_ble_eq_true rfl) ?_
  refine r_if_eq (pc := 81) 99 dX6_told_81 (by decide) (fun _ => ?_) (fun c81 => absurd (by rw [hA]; rfl) (c81))
  refine r_iload_1 (pc := 99) dX6_told_99 ?_
  refine r_bipush (pc := 100) 100 dX6_told_100 (by decide) ?_
  refine r_sipush (pc := 102) 199 dX6_told_102 (by decide) ?_
  refine r_cS1_3 (pc := 105) (ct_X6_isWithin) cs_X6_isWithin ⟨Nat.le_of_ble_eq_true rfl, Nat.le_of_ble_eq_true rfl⟩ ml_X6_60 dX6_told_105 rfl (Nat.le_of_ble_eq_true rfl) ?_
  refine r_if_eq (pc := 108) 120 dX6_told_108 (by decide) (fun _ => ?_) (fun c108 => absurd (by rw [hB]; rfl) (c108))
  refine r_iload_1 (pc := 120) dX6_told_120 ?_
  refine r_sipush (pc := 121) 200 dX6_told_121 (by decide) ?_
  refine r_icmp_lt (pc := 124) 146 dX6_told_124 (by decide) (fun c124 => absurd c124 (nI_nlt (a := n) (b := 200) h1 h2)) (fun _ => ?_)
  refine r_aload_0 (pc := 127) dX6_told_127 ?_
  refine r_iload_1 (pc := 128) dX6_told_128 ?_
  refine r_sipush (pc := 129) 200 dX6_told_129 (by decide) ?_
  refine r_idiv (pc := 132) dX6_told_132 (by decide) ?_
  refine r_iconst (pc := 133) 1 dX6_told_133 (by decide) ?_
  refine r_isub (pc := 134) dX6_told_134 ?_
  rw [e1]
  refine r_iload_1 (pc := 135) dX6_told_135 ?_
  refine r_sipush (pc := 136) 200 dX6_told_136 (by decide) ?_
  refine r_irem (pc := 139) dX6_told_139 (by decide) ?_
  rw [e2]
  refine r_cV1_2 (pc := 140) (hv) cv_X6_toldOfKnown ⟨Nat.le_of_ble_eq_true rfl, Nat.le_of_ble_eq_true rfl⟩ ml_X6_314 dX6_told_140 (by decide) rfl rfl rfl (Nat.le_of_ble_eq_true rfl) ?_
  refine r_goto (pc := 143) 148 dX6_told_143 (by decide) ?_
  refine r_iret (pc := 148) dX6_told_148 rfl (by first | rfl | simp_all [bI]) rfl
theorem ct_X6_toldR {h : Wd} {S : SG} {x : Int32} (hA : inR x 10 99 = false) (hB : inR x 100 199 = false) (hC : x < 200) : Ct mX6_told [.ref 0, .int x] (wx h S) (some (.int (if x = 0 then wp_count S.pad else if x = 1 then wc_men S.now.camp else if x = 2 then wt_count S.now.tales else if x = 3 then wg_count S.now.sights else -2))) (wx h S) := by
  refine Ct.of (Z := List.replicate 0 .null) (by decide) (Nat.le_of_ble_eq_true rfl) (fun z hz => List.eq_of_mem_replicate hz) ?_
  show WW mX6_told 0 [.ref 0, .int x] [] _ _ _
  refine r_iload_1 (pc := 0) dX6_told_0 ?_
  by_cases e1_0 : x = 0
  · refine r_tabIn (pc := 1) (off := 31) 0 32 dX6_told_1 (by rw [e1_0]; decide) (by decide) (by decide) rfl (by decide) ?_
    refine r_aload_0 (pc := 32) dX6_told_32 ?_
    refine r_f_X6_pad (pc := 33) fl_X6_25 dX6_told_33 ?_
    refine r_cV1_0 (pc := 36) ((ct_X2_size (by decide)).at sXp sXp) cv_X2_size ⟨Nat.le_of_ble_eq_true rfl, Nat.le_of_ble_eq_true rfl⟩ ml_X6_115 dX6_told_36 (by decide) rfl rfl rfl (Nat.le_of_ble_eq_true rfl) ?_
    refine r_iret (pc := 39) dX6_told_39 rfl (by rw [if_pos e1_0]) rfl
  by_cases e1_1 : x = 1
  · refine r_tabIn (pc := 1) (off := 39) 1 40 dX6_told_1 (by rw [e1_1]; decide) (by decide) (by decide) rfl (by decide) ?_
    refine r_aload_0 (pc := 40) dX6_told_40 ?_
    refine r_f_X6_now (pc := 41) fl_X6_10 dX6_told_41 ?_
    refine r_g_X1_camp (pc := 44) (List.mem_of_getElem? (i := 0) rfl) dX6_told_44 ?_
    refine r_cV1_0 (pc := 47) ((ct_X0_menBits (by decide)).at sXc1 sXc1) cv_X0_menBits ⟨Nat.le_of_ble_eq_true rfl, Nat.le_of_ble_eq_true rfl⟩ ml_X6_271 dX6_told_47 (by decide) rfl rfl rfl (Nat.le_of_ble_eq_true rfl) ?_
    refine r_iret (pc := 50) dX6_told_50 rfl (by rw [if_neg e1_0, if_pos e1_1]) rfl
  by_cases e1_2 : x = 2
  · refine r_tabIn (pc := 1) (off := 50) 2 51 dX6_told_1 (by rw [e1_2]; decide) (by decide) (by decide) rfl (by decide) ?_
    refine r_aload_0 (pc := 51) dX6_told_51 ?_
    refine r_f_X6_now (pc := 52) fl_X6_10 dX6_told_52 ?_
    refine r_g_X1_tales (pc := 55) (List.mem_of_getElem? (i := 1) rfl) dX6_told_55 ?_
    refine r_cV1_0 (pc := 58) ((ct_X4_size (by decide)).at sXt1 sXt1) cv_X4_size ⟨Nat.le_of_ble_eq_true rfl, Nat.le_of_ble_eq_true rfl⟩ ml_X6_194 dX6_told_58 (by decide) rfl rfl rfl (Nat.le_of_ble_eq_true rfl) ?_
    refine r_iret (pc := 61) dX6_told_61 rfl (by rw [if_neg e1_0, if_neg e1_1, if_pos e1_2]) rfl
  by_cases e1_3 : x = 3
  · refine r_tabIn (pc := 1) (off := 61) 3 62 dX6_told_1 (by rw [e1_3]; decide) (by decide) (by decide) rfl (by decide) ?_
    refine r_aload_0 (pc := 62) dX6_told_62 ?_
    refine r_f_X6_now (pc := 63) fl_X6_10 dX6_told_63 ?_
    refine r_g_X1_sights (pc := 66) (List.mem_of_getElem? (i := 2) rfl) dX6_told_66 ?_
    refine r_cV1_0 (pc := 69) ((ct_X3_size (by decide)).at sXg1 sXg1) cv_X3_size ⟨Nat.le_of_ble_eq_true rfl, Nat.le_of_ble_eq_true rfl⟩ ml_X6_240 dX6_told_69 (by decide) rfl rfl rfl (Nat.le_of_ble_eq_true rfl) ?_
    refine r_iret (pc := 72) dX6_told_72 rfl (by rw [if_neg e1_0, if_neg e1_1, if_neg e1_2, if_pos e1_3]) rfl
  refine r_tabOut (pc := 1) 73 dX6_told_1 (by have z0 := lv_neT (a := 0) e1_0 (by decide); have z1 := lv_neT (a := 1) e1_1 (by decide); have z2 := lv_neT (a := 2) e1_2 (by decide); have z3 := lv_neT (a := 3) e1_3 (by decide); omega) (by decide) ?_
  refine r_iload_1 (pc := 73) dX6_told_73 ?_
  refine r_bipush (pc := 74) 10 dX6_told_74 (by decide) ?_
  refine r_bipush (pc := 76) 99 dX6_told_76 (by decide) ?_
  refine r_cS1_3 (pc := 78) (ct_X6_isWithin) cs_X6_isWithin ⟨Nat.le_of_ble_eq_true rfl, Nat.le_of_ble_eq_true rfl⟩ ml_X6_60 dX6_told_78 rfl (Nat.le_of_ble_eq_true rfl) ?_
  refine r_if_eq (pc := 81) 99 dX6_told_81 (by decide) (fun _ => ?_) (fun c81 => absurd (by rw [hA]; rfl) (c81))
  refine r_iload_1 (pc := 99) dX6_told_99 ?_
  refine r_bipush (pc := 100) 100 dX6_told_100 (by decide) ?_
  refine r_sipush (pc := 102) 199 dX6_told_102 (by decide) ?_
  refine r_cS1_3 (pc := 105) (ct_X6_isWithin) cs_X6_isWithin ⟨Nat.le_of_ble_eq_true rfl, Nat.le_of_ble_eq_true rfl⟩ ml_X6_60 dX6_told_105 rfl (Nat.le_of_ble_eq_true rfl) ?_
  refine r_if_eq (pc := 108) 120 dX6_told_108 (by decide) (fun _ => ?_) (fun c108 => absurd (by rw [hB]; rfl) (c108))
  refine r_iload_1 (pc := 120) dX6_told_120 ?_
  refine r_sipush (pc := 121) 200 dX6_told_121 (by decide) ?_
  refine r_icmp_lt (pc := 124) 146 dX6_told_124 (by decide) (fun _ => ?_) (fun c124 => absurd (hC) (c124))
  refine r_bipush (pc := 146) (-2) dX6_told_146 (by decide) ?_
  refine r_iret (pc := 148) dX6_told_148 rfl (by rw [if_neg e1_0, if_neg e1_1, if_neg e1_2, if_neg e1_3]) rfl
