/-! COUNTS OF BITS, by bytes -/
def pA1 (m N : Nat) : Nat := N - (N / 2 &&& m)
def pA2 (m N : Nat) : Nat := (N &&& m) + (N / 4 &&& m)
def pA3 (m N : Nat) : Nat := (N + N / 16) &&& m
def pA (m1 m2 m3 N : Nat) : Nat := pA3 m3 (pA2 m2 (pA1 m1 N))
def pop8 (b : Nat) : Nat := cnt (fun i => b.testBit i) 8
theorem p_and (a b : Nat) : a &&& b = 256 * ((a / 256) &&& (b / 256)) + ((a % 256) &&& (b % 256)) := by
  have h1 : (a &&& b) / 2 ^ 8 = a / 2 ^ 8 &&& b / 2 ^ 8 := Nat.and_div_two_pow
  have h2 : (a &&& b) % 2 ^ 8 = a % 2 ^ 8 &&& b % 2 ^ 8 := Nat.and_mod_two_pow
  have e8 : (2 : Nat) ^ 8 = 256 := by decide
  rw [e8] at h1 h2
  rw [← h1, ← h2]
  omega
theorem q_1 : ∀ b, b < 256 → ∀ e, e < 2 → (b / 2 + 128 * e) &&& 85 = b / 2 &&& 85 := by decide +kernel
theorem q_2 : ∀ b, b < 256 → ∀ e, e < 4 → (b / 4 + 64 * e) &&& 51 = b / 4 &&& 51 := by decide +kernel
theorem q_3 : ∀ b, b < 256 → pA1 85 b < 256 ∧ pA2 51 (pA1 85 b) ≤ 68 ∧ pA 85 51 15 b = pop8 b ∧ pop8 b ≤ 8 := by decide +kernel
theorem p_1 (m N : Nat) : pA1 (85 + 256 * m) N = pA1 85 (N % 256) + 256 * pA1 m (N / 256) := by
  unfold pA1
  have h := p_and (N / 2) (85 + 256 * m)
  have e1 : (85 + 256 * m) / 256 = m := by omega
  have e2 : (85 + 256 * m) % 256 = 85 := by omega
  have e3 : N / 2 / 256 = N / 256 / 2 := by omega
  have e4 : N / 2 % 256 = N % 256 / 2 + 128 * (N / 256 % 2) := by omega
  rw [e1, e2, e3, e4, q_1 (N % 256) (by omega) (N / 256 % 2) (by omega)] at h
  have l1 : (N / 256 / 2 &&& m) ≤ N / 256 / 2 := Nat.and_le_left
  have l2 : (N % 256 / 2 &&& 85) ≤ N % 256 / 2 := Nat.and_le_left
  rw [h]
  omega
theorem p_2 (m N : Nat) : pA2 (51 + 256 * m) N = pA2 51 (N % 256) + 256 * pA2 m (N / 256) := by
  unfold pA2
  have h := p_and (N / 4) (51 + 256 * m)
  have g := p_and N (51 + 256 * m)
  have e1 : (51 + 256 * m) / 256 = m := by omega
  have e2 : (51 + 256 * m) % 256 = 51 := by omega
  have e3 : N / 4 / 256 = N / 256 / 4 := by omega
  have e4 : N / 4 % 256 = N % 256 / 4 + 64 * (N / 256 % 4) := by omega
  rw [e1, e2, e3, e4, q_2 (N % 256) (by omega) (N / 256 % 4) (by omega)] at h
  rw [e1, e2] at g
  rw [h, g]
  omega
theorem p_16 (x : Nat) : x &&& 15 = x % 16 := Nat.and_two_pow_sub_one_eq_mod x 4
theorem p_3 (m z Z : Nat) (hz : z ≤ 68) (hZ : Z % 16 ≤ 8) : pA3 (15 + 256 * m) (z + 256 * Z) = pA3 15 z + 256 * pA3 m Z := by
  unfold pA3
  have h := p_and (z + 256 * Z + (z + 256 * Z) / 16) (15 + 256 * m)
  have e1 : (15 + 256 * m) / 256 = m := by omega
  have e2 : (15 + 256 * m) % 256 = 15 := by omega
  have e3 : (z + 256 * Z + (z + 256 * Z) / 16) / 256 = Z + Z / 16 := by omega
  have e4 : (z + 256 * Z + (z + 256 * Z) / 16) % 256 = z + z / 16 + 16 * (Z % 16) := by omega
  rw [e1, e2, e3, e4, p_16] at h
  rw [h, p_16]
  omega
theorem p_4 (m N : Nat) (hm : m % 16 ≤ 3) : pA2 m N % 16 ≤ 8 := by
  have e16 : (2 : Nat) ^ 4 = 16 := by decide
  have h1 : (N &&& m) % 2 ^ 4 = N % 2 ^ 4 &&& m % 2 ^ 4 := Nat.and_mod_two_pow
  have h2 : (N / 4 &&& m) % 2 ^ 4 = N / 4 % 2 ^ 4 &&& m % 2 ^ 4 := Nat.and_mod_two_pow
  rw [e16] at h1 h2
  have l1 : (N % 16 &&& m % 16) ≤ m % 16 := Nat.and_le_right
  have l2 : (N / 4 % 16 &&& m % 16) ≤ m % 16 := Nat.and_le_right
  unfold pA2
  omega
theorem p_s (m1 m2 m3 N : Nat) (hm : m2 % 16 ≤ 3) : pA (85 + 256 * m1) (51 + 256 * m2) (15 + 256 * m3) N = pop8 (N % 256) + 256 * pA m1 m2 m3 (N / 256) := by
  obtain ⟨h1, h2, h3, _⟩ := q_3 (N % 256) (by omega)
  unfold pA
  rw [p_1, p_2, show (pA1 85 (N % 256) + 256 * pA1 m1 (N / 256)) % 256 = pA1 85 (N % 256) by omega, show (pA1 85 (N % 256) + 256 * pA1 m1 (N / 256)) / 256 = pA1 m1 (N / 256) by omega, p_3 _ _ _ h2 (p_4 _ _ hm)]
  rw [show pA3 15 (pA2 51 (pA1 85 (N % 256))) = pop8 (N % 256) from h3]
theorem p_4b (N : Nat) : pA 1431655765 858993459 252645135 N = pop8 (N % 256) + 256 * (pop8 (N / 256 % 256) + 256 * (pop8 (N / 256 / 256 % 256) + 256 * (pop8 (N / 256 / 256 / 256 % 256) + 256 * pA 0 0 0 (N / 256 / 256 / 256 / 256)))) := by
  rw [← p_s 0 0 0 _ (by decide), ← p_s _ _ _ _ (by decide), ← p_s _ _ _ _ (by decide), ← p_s _ _ _ _ (by decide)]
theorem cnt_add (p : Nat → Bool) (a : Nat) : ∀ b, cnt p (a + b) = cnt p a + cnt (fun i => p (a + i)) b
  | 0 => rfl
  | b + 1 => by
    show (cnt p (a + b) + _) = _
    rw [cnt_add p a b, Nat.add_assoc]
    rfl
theorem cnt_by (N n : Nat) : cnt (fun i => N.testBit i) (8 + n) = pop8 (N % 256) + cnt (fun i => (N / 256).testBit i) n := by
  rw [cnt_add]
  have e1 : cnt (fun i => N.testBit i) 8 = pop8 (N % 256) := by
    unfold pop8
    refine cnt_cong (fun j hj => ?_)
    have h := Nat.testBit_mod_two_pow N 8 j
    rw [show (2 : Nat) ^ 8 = 256 by decide, decide_eq_true hj, Bool.true_and] at h
    exact h.symm
  have e2 : cnt (fun i => N.testBit (8 + i)) n = cnt (fun i => (N / 256).testBit i) n := by
    refine cnt_cong (fun j hj => ?_)
    have h : (N / 2 ^ 8).testBit j = N.testBit (j + 8) := by rw [Nat.testBit_div_two_pow]
    rw [show (2 : Nat) ^ 8 = 256 by decide] at h
    rw [h, Nat.add_comm]
  rw [e1, e2]
theorem pA_0 (x : Nat) : pA 0 0 0 x = 0 := by
  unfold pA pA3
  exact Nat.and_zero _
theorem bt_nI {N j : Nat} (hj : j < 32) : bt (nI N) j = N.testBit j := by
  unfold bt
  show (BitVec.ofNat 32 N).getLsbD j = _
  rw [BitVec.getLsbD_ofNat, decide_eq_true hj, Bool.true_and]
theorem iu_n {N j : Nat} (hN : N < 2 ^ 32) (hj : j < 32) : ((nI N).toUInt32 >>> ((nI j).toUInt32 &&& Int32.toUInt32 31)).toInt32 = nI (N / 2 ^ j) := by
  refine b_ext (fun i hi => ?_)
  rw [b_ushr j hj, bt_nI hi, Nat.testBit_div_two_pow]
  by_cases h : j + i < 32
  · rw [bt_nI h, Nat.add_comm]
  · rw [b_big (by omega), Nat.testBit_lt_two_pow (Nat.lt_of_lt_of_le hN (Nat.pow_le_pow_right (by decide) (by omega)))]
theorem nI_sb {a b : Nat} (h : b ≤ a) : nI a - nI b = nI (a - b) := by
  have e : nI a = nI (a - b) + nI b := by rw [nI_add, Nat.sub_add_cancel h]
  rw [e, Int32.add_sub_cancel]
theorem bc_32 (N : Nat) (hN : N < 2 ^ 32) : (pA 1431655765 858993459 252645135 N + pA 1431655765 858993459 252645135 N / 256 + (pA 1431655765 858993459 252645135 N + pA 1431655765 858993459 252645135 N / 256) / 65536) % 64 = cnt (bt (nI N)) 32 := by
  have e : cnt (bt (nI N)) 32 = cnt (fun i => N.testBit i) (8 + (8 + (8 + (8 + 0)))) := cnt_cong (fun j hj => bt_nI hj)
  rw [e, cnt_by, cnt_by, cnt_by, cnt_by, p_4b, pA_0]
  have a0 := (q_3 (N % 256) (by omega)).2.2.2
  have a1 := (q_3 (N / 256 % 256) (by omega)).2.2.2
  have a2 := (q_3 (N / 256 / 256 % 256) (by omega)).2.2.2
  have a3 := (q_3 (N / 256 / 256 / 256 % 256) (by omega)).2.2.2
  show _ = _ + (_ + (_ + (_ + 0)))
  generalize pop8 (N % 256) = p0 at *
  generalize pop8 (N / 256 % 256) = p1 at *
  generalize pop8 (N / 256 / 256 % 256) = p2 at *
  generalize pop8 (N / 256 / 256 / 256 % 256) = p3 at *
  clear e
  have d1 : (p0 + 256 * (p1 + 256 * (p2 + 256 * (p3 + 256 * 0)))) / 256 = p1 + 256 * (p2 + 256 * p3) := by omega
  rw [d1]
  have d2 : (p0 + 256 * (p1 + 256 * (p2 + 256 * (p3 + 256 * 0))) + (p1 + 256 * (p2 + 256 * p3))) / 65536 = p2 + p3 + 256 * p3 := by omega
  rw [d2]
  omega
theorem ct_J6_bitCount_0f7a4 {x : Int32} {h : Wd} : Ct mJ6_bitCount_0f7a4 [.int x] h (some (.int (nI (cnt (bt x) 32)))) h := by
  obtain ⟨N, hN, rfl⟩ := wb_of32 x
  have lA : pA1 1431655765 N ≤ N := Nat.sub_le _ _
  have lB : pA2 858993459 (pA1 1431655765 N) ≤ 858993459 + 858993459 := Nat.add_le_add Nat.and_le_right Nat.and_le_right
  have lC : pA 1431655765 858993459 252645135 N ≤ 252645135 := Nat.and_le_right
  have E1 : nI N - (((nI N).toUInt32 >>> ((1 : Int32).toUInt32 &&& Int32.toUInt32 31)).toInt32 &&& 1431655765) = nI (pA1 1431655765 N) := by
    rw [show ((nI N).toUInt32 >>> ((1 : Int32).toUInt32 &&& Int32.toUInt32 31)).toInt32 = nI (N / 2 ^ 1) from iu_n hN (j := 1) (by decide), show (1431655765 : Int32) = nI 1431655765 from rfl, nx_and, nI_sb (Nat.le_trans Nat.and_le_left (Nat.div_le_self _ _))]
    rfl
  have E2 : (nI (pA1 1431655765 N) &&& 858993459) + (((nI (pA1 1431655765 N)).toUInt32 >>> ((2 : Int32).toUInt32 &&& Int32.toUInt32 31)).toInt32 &&& 858993459) = nI (pA2 858993459 (pA1 1431655765 N)) := by
    rw [show ((nI (pA1 1431655765 N)).toUInt32 >>> ((2 : Int32).toUInt32 &&& Int32.toUInt32 31)).toInt32 = nI (pA1 1431655765 N / 2 ^ 2) from iu_n (by omega) (j := 2) (by decide), show (858993459 : Int32) = nI 858993459 from rfl, nx_and, nx_and, nI_add]
    rfl
  have E3 : (nI (pA2 858993459 (pA1 1431655765 N)) + ((nI (pA2 858993459 (pA1 1431655765 N))).toUInt32 >>> ((4 : Int32).toUInt32 &&& Int32.toUInt32 31)).toInt32) &&& 252645135 = nI (pA 1431655765 858993459 252645135 N) := by
    rw [show ((nI (pA2 858993459 (pA1 1431655765 N))).toUInt32 >>> ((4 : Int32).toUInt32 &&& Int32.toUInt32 31)).toInt32 = nI (pA2 858993459 (pA1 1431655765 N) / 2 ^ 4) from iu_n (by omega) (j := 4) (by decide), show (252645135 : Int32) = nI 252645135 from rfl, nI_add, nx_and]
    rfl
  have E4 : ∀ C, C < 2 ^ 32 → nI C + ((nI C).toUInt32 >>> ((8 : Int32).toUInt32 &&& Int32.toUInt32 31)).toInt32 = nI (C + C / 256) := fun C hC => by
    rw [show ((nI C).toUInt32 >>> ((8 : Int32).toUInt32 &&& Int32.toUInt32 31)).toInt32 = nI (C / 2 ^ 8) from iu_n hC (j := 8) (by decide), nI_add]
  have E5 : ∀ C, C < 2 ^ 32 → nI C + ((nI C).toUInt32 >>> ((16 : Int32).toUInt32 &&& Int32.toUInt32 31)).toInt32 = nI (C + C / 65536) := fun C hC => by
    rw [show ((nI C).toUInt32 >>> ((16 : Int32).toUInt32 &&& Int32.toUInt32 31)).toInt32 = nI (C / 2 ^ 16) from iu_n hC (j := 16) (by decide), nI_add]
  have E6 : ∀ C, nI C &&& 63 = nI (C % 64) := fun C => by
    rw [show (63 : Int32) = nI 63 from rfl, nx_and, show C &&& 63 = C % 64 from Nat.and_two_pow_sub_one_eq_mod C 6]
  refine Ct.of (Z := List.replicate 0 .null) (by decide) (Nat.le_of_ble_eq_true rfl) (fun z hz => List.eq_of_mem_replicate hz) ?_
  show WW mJ6_bitCount_0f7a4 0 [.int (nI N)] [] _ _ _
  refine r_iload_0 (pc := 0) dJ6_bitCount_0f7a4_0 ?_
  refine r_iload_0 (pc := 1) dJ6_bitCount_0f7a4_1 ?_
  refine r_iconst (pc := 2) 1 dJ6_bitCount_0f7a4_2 (by decide) ?_
  refine r_iushr (pc := 3) dJ6_bitCount_0f7a4_3 ?_
  refine r_ldcw (pc := 4) dJ6_bitCount_0f7a4_4 ki_J6_265 ?_
  refine r_iand (pc := 7) dJ6_bitCount_0f7a4_7 ?_
  refine r_isub (pc := 8) dJ6_bitCount_0f7a4_8 ?_
  rw [E1]
  refine r_istore_0 (pc := 9) dJ6_bitCount_0f7a4_9 (by decide) ?_
  refine r_iload_0 (pc := 10) dJ6_bitCount_0f7a4_10 ?_
  refine r_ldcw (pc := 11) dJ6_bitCount_0f7a4_11 ki_J6_266 ?_
  refine r_iand (pc := 14) dJ6_bitCount_0f7a4_14 ?_
  refine r_iload_0 (pc := 15) dJ6_bitCount_0f7a4_15 ?_
  refine r_iconst (pc := 16) 2 dJ6_bitCount_0f7a4_16 (by decide) ?_
  refine r_iushr (pc := 17) dJ6_bitCount_0f7a4_17 ?_
  refine r_ldcw (pc := 18) dJ6_bitCount_0f7a4_18 ki_J6_266 ?_
  refine r_iand (pc := 21) dJ6_bitCount_0f7a4_21 ?_
  refine r_iadd (pc := 22) dJ6_bitCount_0f7a4_22 ?_
  rw [E2]
  refine r_istore_0 (pc := 23) dJ6_bitCount_0f7a4_23 (by decide) ?_
  refine r_iload_0 (pc := 24) dJ6_bitCount_0f7a4_24 ?_
  refine r_iload_0 (pc := 25) dJ6_bitCount_0f7a4_25 ?_
  refine r_iconst (pc := 26) 4 dJ6_bitCount_0f7a4_26 (by decide) ?_
  refine r_iushr (pc := 27) dJ6_bitCount_0f7a4_27 ?_
  refine r_iadd (pc := 28) dJ6_bitCount_0f7a4_28 ?_
  refine r_ldcw (pc := 29) dJ6_bitCount_0f7a4_29 ki_J6_267 ?_
  refine r_iand (pc := 32) dJ6_bitCount_0f7a4_32 ?_
  rw [E3]
  refine r_istore_0 (pc := 33) dJ6_bitCount_0f7a4_33 (by decide) ?_
  refine r_iload_0 (pc := 34) dJ6_bitCount_0f7a4_34 ?_
  refine r_iload_0 (pc := 35) dJ6_bitCount_0f7a4_35 ?_
  refine r_bipush (pc := 36) 8 dJ6_bitCount_0f7a4_36 (by decide) ?_
  refine r_iushr (pc := 38) dJ6_bitCount_0f7a4_38 ?_
  refine r_iadd (pc := 39) dJ6_bitCount_0f7a4_39 ?_
  rw [E4 _ (by omega)]
  refine r_istore_0 (pc := 40) dJ6_bitCount_0f7a4_40 (by decide) ?_
  refine r_iload_0 (pc := 41) dJ6_bitCount_0f7a4_41 ?_
  refine r_iload_0 (pc := 42) dJ6_bitCount_0f7a4_42 ?_
  refine r_bipush (pc := 43) 16 dJ6_bitCount_0f7a4_43 (by decide) ?_
  refine r_iushr (pc := 45) dJ6_bitCount_0f7a4_45 ?_
  refine r_iadd (pc := 46) dJ6_bitCount_0f7a4_46 ?_
  rw [E5 _ (by omega)]
  refine r_istore_0 (pc := 47) dJ6_bitCount_0f7a4_47 (by decide) ?_
  refine r_iload_0 (pc := 48) dJ6_bitCount_0f7a4_48 ?_
  refine r_bipush (pc := 49) 63 dJ6_bitCount_0f7a4_49 (by decide) ?_
  refine r_iand (pc := 51) dJ6_bitCount_0f7a4_51 ?_
  rw [E6, bc_32 N hN]
  refine r_iret (pc := 52) dJ6_bitCount_0f7a4_52 rfl (by first | rfl | simp_all [bI]) rfl
