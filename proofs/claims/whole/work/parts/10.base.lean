/-! HELPERS of both classes, and the words for what they say -/
def isC (x : Int32) : Bool := decide (0 ≤ x ∧ x < 64)
def isM (x : Int32) : Bool := decide (0 ≤ x ∧ x < 6)
def inR (x lo hi : Int32) : Bool := decide (lo ≤ x ∧ x ≤ hi)
def inL (x lo hi : Int64) : Bool := decide (lo ≤ x ∧ x ≤ hi)
def is01 (x : Int32) : Bool := decide (x = 0 ∨ x = 1)
def hasB (s m : Int32) : Bool := isM m && decide ((s >>> (m &&& 31)) &&& 1 = 1)
theorem i_nlt {a b : Int32} (h : ¬ a < b) : b ≤ a := Int32.not_lt.mp h
theorem i_nle {a b : Int32} (h : ¬ a ≤ b) : b < a := Int32.not_le.mp h
theorem isC_t {x : Int32} (h : isC x = true) : ∃ j, j < 64 ∧ x = nI j := by
  have h1 := of_decide_eq_true h
  obtain ⟨j, hj, e⟩ := nI_of (x := x) (by intro z; have := Int32.lt_iff_toInt_lt.mp z; have := Int32.le_iff_toInt_le.mp h1.1; omega)
  refine ⟨j, ?_, e⟩
  rw [e] at h1
  exact (nI_ltI (b := 64) hj (by decide)).mp h1.2
theorem isC_n {j : Nat} (h : j < 64) : isC (nI j) = true := decide_eq_true ⟨nI_pos' (by omega), (nI_ltI (b := 64) (by omega) (by decide)).mpr h⟩
theorem isM_t {x : Int32} (h : isM x = true) : ∃ j, j < 6 ∧ x = nI j := by
  have h1 := of_decide_eq_true h
  obtain ⟨j, hj, e⟩ := nI_of (x := x) (by intro z; have := Int32.lt_iff_toInt_lt.mp z; have := Int32.le_iff_toInt_le.mp h1.1; omega)
  refine ⟨j, ?_, e⟩
  rw [e] at h1
  exact (nI_ltI (b := 6) hj (by decide)).mp h1.2
theorem isM_n {j : Nat} (h : j < 6) : isM (nI j) = true := decide_eq_true ⟨nI_pos' (by omega), (nI_ltI (b := 6) (by omega) (by decide)).mpr h⟩
theorem ct_X6_isCell {x : Int32} {h : Wd} : Ct mX6_isCell [.int x] h (some (.int (bI (isC x)))) h := by
  refine Ct.of (Z := List.replicate 0 .null) (by decide) (Nat.le_of_ble_eq_true rfl) (fun z hz => List.eq_of_mem_replicate hz) ?_
  show WW mX6_isCell 0 [.int x] [] _ _ _
  refine r_iload_0 (pc := 0) dX6_isCell_0 ?_
  refine r_if_lt (pc := 1) 14 dX6_isCell_1 (by decide) (fun c1 => ?_) (fun c1 => ?_)
  · refine r_iconst (pc := 14) 0 dX6_isCell_14 (by decide) ?_
    refine r_zret (pc := 15) dX6_isCell_15 rfl (by first | rfl | exact bI_nar _) (by simp_all [bI, isC, Int32.lt_iff_toInt_lt, Int32.le_iff_toInt_le] <;> intros <;> omega) rfl
  · refine r_iload_0 (pc := 4) dX6_isCell_4 ?_
    refine r_bipush (pc := 5) 64 dX6_isCell_5 (by decide) ?_
    refine r_icmp_ge (pc := 7) 14 dX6_isCell_7 (by decide) (fun c7 => ?_) (fun c7 => ?_)
    · refine r_iconst (pc := 14) 0 dX6_isCell_14 (by decide) ?_
      refine r_zret (pc := 15) dX6_isCell_15 rfl (by first | rfl | exact bI_nar _) (by simp_all [bI, isC, Int32.lt_iff_toInt_lt, Int32.le_iff_toInt_le] <;> intros <;> omega) rfl
    · refine r_iconst (pc := 10) 1 dX6_isCell_10 (by decide) ?_
      refine r_goto (pc := 11) 15 dX6_isCell_11 (by decide) ?_
      refine r_zret (pc := 15) dX6_isCell_15 rfl (by first | rfl | exact bI_nar _) (by simp_all [bI, isC, Int32.lt_iff_toInt_lt, Int32.le_iff_toInt_le] <;> intros <;> omega) rfl
theorem ct_X6_isManNumber {x : Int32} {h : Wd} : Ct mX6_isManNumber [.int x] h (some (.int (bI (isM x)))) h := by
  refine Ct.of (Z := List.replicate 0 .null) (by decide) (Nat.le_of_ble_eq_true rfl) (fun z hz => List.eq_of_mem_replicate hz) ?_
  show WW mX6_isManNumber 0 [.int x] [] _ _ _
  refine r_iload_0 (pc := 0) dX6_isManNumber_0 ?_
  refine r_if_lt (pc := 1) 14 dX6_isManNumber_1 (by decide) (fun c1 => ?_) (fun c1 => ?_)
  · refine r_iconst (pc := 14) 0 dX6_isManNumber_14 (by decide) ?_
    refine r_zret (pc := 15) dX6_isManNumber_15 rfl (by first | rfl | exact bI_nar _) (by simp_all [bI, isM, Int32.lt_iff_toInt_lt, Int32.le_iff_toInt_le] <;> intros <;> omega) rfl
  · refine r_iload_0 (pc := 4) dX6_isManNumber_4 ?_
    refine r_bipush (pc := 5) 6 dX6_isManNumber_5 (by decide) ?_
    refine r_icmp_ge (pc := 7) 14 dX6_isManNumber_7 (by decide) (fun c7 => ?_) (fun c7 => ?_)
    · refine r_iconst (pc := 14) 0 dX6_isManNumber_14 (by decide) ?_
      refine r_zret (pc := 15) dX6_isManNumber_15 rfl (by first | rfl | exact bI_nar _) (by simp_all [bI, isM, Int32.lt_iff_toInt_lt, Int32.le_iff_toInt_le] <;> intros <;> omega) rfl
    · refine r_iconst (pc := 10) 1 dX6_isManNumber_10 (by decide) ?_
      refine r_goto (pc := 11) 15 dX6_isManNumber_11 (by decide) ?_
      refine r_zret (pc := 15) dX6_isManNumber_15 rfl (by first | rfl | exact bI_nar _) (by simp_all [bI, isM, Int32.lt_iff_toInt_lt, Int32.le_iff_toInt_le] <;> intros <;> omega) rfl
theorem ct_X6_isWithin {x lo hi : Int32} {h : Wd} : Ct mX6_isWithin [.int x, .int lo, .int hi] h (some (.int (bI (inR x lo hi)))) h := by
  refine Ct.of (Z := List.replicate 0 .null) (by decide) (Nat.le_of_ble_eq_true rfl) (fun z hz => List.eq_of_mem_replicate hz) ?_
  show WW mX6_isWithin 0 [.int x, .int lo, .int hi] [] _ _ _
  refine r_iload_0 (pc := 0) dX6_isWithin_0 ?_
  refine r_iload_1 (pc := 1) dX6_isWithin_1 ?_
  refine r_icmp_lt (pc := 2) 14 dX6_isWithin_2 (by decide) (fun c2 => ?_) (fun c2 => ?_)
  · refine r_iconst (pc := 14) 0 dX6_isWithin_14 (by decide) ?_
    refine r_zret (pc := 15) dX6_isWithin_15 rfl (by first | rfl | exact bI_nar _) (by simp_all [bI, inR, Int32.lt_iff_toInt_lt, Int32.le_iff_toInt_le] <;> intros <;> omega) rfl
  · refine r_iload_0 (pc := 5) dX6_isWithin_5 ?_
    refine r_iload_2 (pc := 6) dX6_isWithin_6 ?_
    refine r_icmp_gt (pc := 7) 14 dX6_isWithin_7 (by decide) (fun c7 => ?_) (fun c7 => ?_)
    · refine r_iconst (pc := 14) 0 dX6_isWithin_14 (by decide) ?_
      refine r_zret (pc := 15) dX6_isWithin_15 rfl (by first | rfl | exact bI_nar _) (by simp_all [bI, inR, Int32.lt_iff_toInt_lt, Int32.le_iff_toInt_le] <;> intros <;> omega) rfl
    · refine r_iconst (pc := 10) 1 dX6_isWithin_10 (by decide) ?_
      refine r_goto (pc := 11) 15 dX6_isWithin_11 (by decide) ?_
      refine r_zret (pc := 15) dX6_isWithin_15 rfl (by first | rfl | exact bI_nar _) (by simp_all [bI, inR, Int32.lt_iff_toInt_lt, Int32.le_iff_toInt_le] <;> intros <;> omega) rfl
theorem ct_X6_isZeroOrOne {x : Int32} {h : Wd} : Ct mX6_isZeroOrOne [.int x] h (some (.int (bI (is01 x)))) h := by
  refine Ct.of (Z := List.replicate 0 .null) (by decide) (Nat.le_of_ble_eq_true rfl) (fun z hz => List.eq_of_mem_replicate hz) ?_
  show WW mX6_isZeroOrOne 0 [.int x] [] _ _ _
  refine r_iload_0 (pc := 0) dX6_isZeroOrOne_0 ?_
  refine r_if_eq (pc := 1) 9 dX6_isZeroOrOne_1 (by decide) (fun c1 => ?_) (fun c1 => ?_)
  · refine r_iconst (pc := 9) 1 dX6_isZeroOrOne_9 (by decide) ?_
    refine r_goto (pc := 10) 14 dX6_isZeroOrOne_10 (by decide) ?_
    refine r_zret (pc := 14) dX6_isZeroOrOne_14 rfl (by first | rfl | exact bI_nar _) (by simp_all [bI, is01]) rfl
  · refine r_iload_0 (pc := 4) dX6_isZeroOrOne_4 ?_
    refine r_iconst (pc := 5) 1 dX6_isZeroOrOne_5 (by decide) ?_
    refine r_icmp_ne (pc := 6) 13 dX6_isZeroOrOne_6 (by decide) (fun c6 => ?_) (fun c6 => ?_)
    · refine r_iconst (pc := 13) 0 dX6_isZeroOrOne_13 (by decide) ?_
      refine r_zret (pc := 14) dX6_isZeroOrOne_14 rfl (by first | rfl | exact bI_nar _) (by simp_all [bI, is01]) rfl
    · refine r_iconst (pc := 9) 1 dX6_isZeroOrOne_9 (by decide) ?_
      refine r_goto (pc := 10) 14 dX6_isZeroOrOne_10 (by decide) ?_
      refine r_zret (pc := 14) dX6_isZeroOrOne_14 rfl (by first | rfl | exact bI_nar _) (by simp_all [bI, is01]) rfl
theorem ct_X6_hasBit {s x : Int32} {h : Wd} : Ct mX6_hasBit [.int s, .int x] h (some (.int (bI (hasB s x)))) h := by
  refine Ct.of (Z := List.replicate 0 .null) (by decide) (Nat.le_of_ble_eq_true rfl) (fun z hz => List.eq_of_mem_replicate hz) ?_
  show WW mX6_hasBit 0 [.int s, .int x] [] _ _ _
  refine r_iload_1 (pc := 0) dX6_hasBit_0 ?_
  refine r_if_lt (pc := 1) 23 dX6_hasBit_1 (by decide) (fun c1 => ?_) (fun c1 => ?_)
  · refine r_iconst (pc := 23) 0 dX6_hasBit_23 (by decide) ?_
    refine r_zret (pc := 24) dX6_hasBit_24 rfl (by first | rfl | exact bI_nar _) (by simp_all [bI, hasB, isM, Int32.lt_iff_toInt_lt, Int32.le_iff_toInt_le] <;> intros <;> omega) rfl
  · refine r_iload_1 (pc := 4) dX6_hasBit_4 ?_
    refine r_bipush (pc := 5) 6 dX6_hasBit_5 (by decide) ?_
    refine r_icmp_ge (pc := 7) 23 dX6_hasBit_7 (by decide) (fun c7 => ?_) (fun c7 => ?_)
    · refine r_iconst (pc := 23) 0 dX6_hasBit_23 (by decide) ?_
      refine r_zret (pc := 24) dX6_hasBit_24 rfl (by first | rfl | exact bI_nar _) (by simp_all [bI, hasB, isM, Int32.lt_iff_toInt_lt, Int32.le_iff_toInt_le] <;> intros <;> omega) rfl
    · refine r_iload_0 (pc := 10) dX6_hasBit_10 ?_
      refine r_iload_1 (pc := 11) dX6_hasBit_11 ?_
      refine r_ishr (pc := 12) dX6_hasBit_12 ?_
      refine r_iconst (pc := 13) 1 dX6_hasBit_13 (by decide) ?_
      refine r_iand (pc := 14) dX6_hasBit_14 ?_
      refine r_iconst (pc := 15) 1 dX6_hasBit_15 (by decide) ?_
      refine r_icmp_ne (pc := 16) 23 dX6_hasBit_16 (by decide) (fun c16 => ?_) (fun c16 => ?_)
      · refine r_iconst (pc := 23) 0 dX6_hasBit_23 (by decide) ?_
        refine r_zret (pc := 24) dX6_hasBit_24 rfl (by first | rfl | exact bI_nar _) (by simp_all [bI, hasB, isM, Int32.lt_iff_toInt_lt, Int32.le_iff_toInt_le] <;> intros <;> omega) rfl
      · refine r_iconst (pc := 19) 1 dX6_hasBit_19 (by decide) ?_
        refine r_goto (pc := 20) 24 dX6_hasBit_20 (by decide) ?_
        refine r_zret (pc := 24) dX6_hasBit_24 rfl (by first | rfl | exact bI_nar _) (by simp_all [bI, hasB, isM, Int32.lt_iff_toInt_lt, Int32.le_iff_toInt_le] <;> intros <;> omega) rfl
theorem ct_X7_in {x lo hi : Int64} {h : Wd} : Ct mX7_in [.long x, .long lo, .long hi] h (some (.int (bI (inL x lo hi)))) h := by
  refine Ct.of (Z := List.replicate 0 .null) (by decide) (Nat.le_of_ble_eq_true rfl) (fun z hz => List.eq_of_mem_replicate hz) ?_
  show WW mX7_in 0 [.long x, .null, .long lo, .null, .long hi, .null] [] _ _ _
  refine r_lload_0 (pc := 0) dX7_in_0 ?_
  refine r_lload_2 (pc := 1) dX7_in_1 ?_
  refine r_lcmp_lt (pc := 2) 17 dX7_in_2 dX7_in_3 (by decide) (fun c2 => ?_) (fun c2 => ?_)
  · refine r_iconst (pc := 17) 0 dX7_in_17 (by decide) ?_
    refine r_zret (pc := 18) dX7_in_18 rfl (by first | rfl | exact bI_nar _) (by simp_all [bI, inL, Int64.lt_iff_toInt_lt, Int64.le_iff_toInt_le] <;> intros <;> omega) rfl
  · refine r_lload_0 (pc := 6) dX7_in_6 ?_
    refine r_lload_4 (pc := 7) dX7_in_7 ?_
    refine r_lcmp_gt (pc := 9) 17 dX7_in_9 dX7_in_10 (by decide) (fun c9 => ?_) (fun c9 => ?_)
    · refine r_iconst (pc := 17) 0 dX7_in_17 (by decide) ?_
      refine r_zret (pc := 18) dX7_in_18 rfl (by first | rfl | exact bI_nar _) (by simp_all [bI, inL, Int64.lt_iff_toInt_lt, Int64.le_iff_toInt_le] <;> intros <;> omega) rfl
    · refine r_iconst (pc := 13) 1 dX7_in_13 (by decide) ?_
      refine r_goto (pc := 14) 18 dX7_in_14 (by decide) ?_
      refine r_zret (pc := 18) dX7_in_18 rfl (by first | rfl | exact bI_nar _) (by simp_all [bI, inL, Int64.lt_iff_toInt_lt, Int64.le_iff_toInt_le] <;> intros <;> omega) rfl
theorem ct_X7_over {x : Int32} {h : Wd} : Ct mX7_over [.int x] h (some (.int (if x < 0 then 0 else x))) h := by
  refine Ct.of (Z := List.replicate 0 .null) (by decide) (Nat.le_of_ble_eq_true rfl) (fun z hz => List.eq_of_mem_replicate hz) ?_
  show WW mX7_over 0 [.int x] [] _ _ _
  refine r_iload_0 (pc := 0) dX7_over_0 ?_
  refine r_if_ge (pc := 1) 8 dX7_over_1 (by decide) (fun c1 => ?_) (fun c1 => ?_)
  · refine r_iload_0 (pc := 8) dX7_over_8 ?_
    refine r_iret (pc := 9) dX7_over_9 rfl (by first | rw [if_neg (Int32.not_lt.mpr (by assumption))] | rw [if_pos (i_nle (by assumption))]) rfl
  · refine r_iconst (pc := 4) 0 dX7_over_4 (by decide) ?_
    refine r_goto (pc := 5) 9 dX7_over_5 (by decide) ?_
    refine r_iret (pc := 9) dX7_over_9 rfl (by first | rw [if_neg (Int32.not_lt.mpr (by assumption))] | rw [if_pos (i_nle (by assumption))]) rfl
theorem ct_X6_columnOf {x : Int32} {h : Wd} : Ct mX6_columnOf [.int x] h (some (.int (x - x / 8 * 8))) h := by
  refine Ct.of (Z := List.replicate 0 .null) (by decide) (Nat.le_of_ble_eq_true rfl) (fun z hz => List.eq_of_mem_replicate hz) ?_
  show WW mX6_columnOf 0 [.int x] [] _ _ _
  refine r_iload_0 (pc := 0) dX6_columnOf_0 ?_
  refine r_bipush (pc := 1) 8 dX6_columnOf_1 (by decide) ?_
  refine r_irem (pc := 3) dX6_columnOf_3 (by decide) ?_
  refine r_iret (pc := 4) dX6_columnOf_4 rfl (by first | rfl | simp_all [bI]) rfl
theorem ct_X6_rowOf {x : Int32} {h : Wd} : Ct mX6_rowOf [.int x] h (some (.int (x / 8))) h := by
  refine Ct.of (Z := List.replicate 0 .null) (by decide) (Nat.le_of_ble_eq_true rfl) (fun z hz => List.eq_of_mem_replicate hz) ?_
  show WW mX6_rowOf 0 [.int x] [] _ _ _
  refine r_iload_0 (pc := 0) dX6_rowOf_0 ?_
  refine r_bipush (pc := 1) 8 dX6_rowOf_1 (by decide) ?_
  refine r_idiv (pc := 3) dX6_rowOf_3 (by decide) ?_
  refine r_iret (pc := 4) dX6_rowOf_4 rfl (by first | rfl | simp_all [bI]) rfl
def absI (x : Int32) : Int32 := if 0 ≤ x then x else 0 - x
def dist (a b : Int32) : Int32 := absI ((a - a / 8 * 8) - (b - b / 8 * 8)) + absI (a / 8 - b / 8)
theorem ct_X6_distance {a b : Int32} {h : Wd} : Ct mX6_distance [.int a, .int b] h (some (.int (dist a b))) h := by
  refine Ct.of (Z := List.replicate 0 .null) (by decide) (Nat.le_of_ble_eq_true rfl) (fun z hz => List.eq_of_mem_replicate hz) ?_
  show WW mX6_distance 0 [.int a, .int b] [] _ _ _
  refine r_iload_0 (pc := 0) dX6_distance_0 ?_
  refine r_cS1_1 (pc := 1) (ct_X6_columnOf) cs_X6_columnOf ⟨Nat.le_of_ble_eq_true rfl, Nat.le_of_ble_eq_true rfl⟩ ml_X6_337 dX6_distance_1 rfl (Nat.le_of_ble_eq_true rfl) ?_
  refine r_iload_1 (pc := 4) dX6_distance_4 ?_
  refine r_cS1_1 (pc := 5) (ct_X6_columnOf) cs_X6_columnOf ⟨Nat.le_of_ble_eq_true rfl, Nat.le_of_ble_eq_true rfl⟩ ml_X6_337 dX6_distance_5 rfl (Nat.le_of_ble_eq_true rfl) ?_
  refine r_isub (pc := 8) dX6_distance_8 ?_
  refine r_abs (pc := 9) dX6_distance_9 ml_X6_340 (by decide) (Nat.le_of_ble_eq_true rfl) ?_
  refine r_iload_0 (pc := 12) dX6_distance_12 ?_
  refine r_cS1_1 (pc := 13) (ct_X6_rowOf) cs_X6_rowOf ⟨Nat.le_of_ble_eq_true rfl, Nat.le_of_ble_eq_true rfl⟩ ml_X6_343 dX6_distance_13 rfl (Nat.le_of_ble_eq_true rfl) ?_
  refine r_iload_1 (pc := 16) dX6_distance_16 ?_
  refine r_cS1_1 (pc := 17) (ct_X6_rowOf) cs_X6_rowOf ⟨Nat.le_of_ble_eq_true rfl, Nat.le_of_ble_eq_true rfl⟩ ml_X6_343 dX6_distance_17 rfl (Nat.le_of_ble_eq_true rfl) ?_
  refine r_isub (pc := 20) dX6_distance_20 ?_
  refine r_abs (pc := 21) dX6_distance_21 ml_X6_340 (by decide) (Nat.le_of_ble_eq_true rfl) ?_
  refine r_iadd (pc := 24) dX6_distance_24 ?_
  refine r_iret (pc := 25) dX6_distance_25 rfl (by first | rfl | simp_all [bI]) rfl
