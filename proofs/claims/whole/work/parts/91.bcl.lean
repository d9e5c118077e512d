/-! COUNT OF BITS OF A LONG -/
theorem p_8b (N : Nat) : pA 6148914691236517205 3689348814741910323 1085102592571150095 N = pop8 (N % 256) + 256 * (pop8 (N / 256 % 256) + 256 * (pop8 (N / 256 / 256 % 256) + 256 * (pop8 (N / 256 / 256 / 256 % 256) + 256 * (pop8 (N / 256 / 256 / 256 / 256 % 256) + 256 * (pop8 (N / 256 / 256 / 256 / 256 / 256 % 256) + 256 * (pop8 (N / 256 / 256 / 256 / 256 / 256 / 256 % 256) + 256 * (pop8 (N / 256 / 256 / 256 / 256 / 256 / 256 / 256 % 256) + 256 * pA 0 0 0 (N / 256 / 256 / 256 / 256 / 256 / 256 / 256 / 256)))))))) := by
  rw [← p_s 0 0 0 _ (by decide), ← p_s _ _ _ _ (by decide), ← p_s _ _ _ _ (by decide), ← p_s _ _ _ _ (by decide), ← p_s _ _ _ _ (by decide), ← p_s _ _ _ _ (by decide), ← p_s _ _ _ _ (by decide), ← p_s _ _ _ _ (by decide)]
theorem kb_lN {N j : Nat} (hj : j < 64) : kb (lN N) j = N.testBit j := by
  unfold kb
  show (BitVec.ofNat 64 N).getLsbD j = _
  rw [BitVec.getLsbD_ofNat, decide_eq_true hj, Bool.true_and]
theorem lN_ad (a b : Nat) : lN a + lN b = lN (a + b) := (Int64.ofNat_add a b).symm
theorem lN_sb {a b : Nat} (h : b ≤ a) : lN a - lN b = lN (a - b) := by
  have e : lN a = lN (a - b) + lN b := by rw [lN_ad, Nat.sub_add_cancel h]
  rw [e, Int64.add_sub_cancel]
theorem dv_b (a b W : Nat) (h : a < b) : (a + b * W) / b = W := by
  rw [Nat.add_mul_div_left _ _ (by omega), Nat.div_eq_of_lt h, Nat.zero_add]
theorem v_8 (p0 p1 p2 p3 p4 p5 p6 p7 : Nat) (a0 : p0 ≤ 8) (a1 : p1 ≤ 8) (a2 : p2 ≤ 8) (a3 : p3 ≤ 8) (a4 : p4 ≤ 8) (a5 : p5 ≤ 8) (a6 : p6 ≤ 8) (V y z W1 W2 W3 W4 W5 W6 : Nat) (e6 : W6 = p6 + 256 * p7) (e5 : W5 = p5 + 256 * W6) (e4 : W4 = p4 + 256 * W5) (e3 : W3 = p3 + 256 * W4) (e2 : W2 = p2 + 256 * W3) (e1 : W1 = p1 + 256 * W2) (eV : V = p0 + 256 * W1) (ey : y = V + V / 256) (ez : z = y + y / 65536) : (z + z / 4294967296) % 128 = (p0 + (p1 + (p2 + (p3 + (p4 + (p5 + (p6 + p7))))))) % 128 := by
  have d1 : V / 256 = W1 := by rw [eV]; exact dv_b _ _ _ (by omega)
  rw [d1] at ey
  have y2 : y = p0 + p1 + 256 * (p1 + p2) + 65536 * (W2 + W3) := by omega
  have d2 : y / 65536 = W2 + W3 := by rw [y2]; exact dv_b _ _ _ (by omega)
  rw [d2] at ez
  have z2 : z = (p0 + p1 + p2 + p3 + 256 * (p1 + p2 + p3 + p4) + 65536 * (p2 + p3 + p4 + p5) + 16777216 * (p3 + p4 + p5 + p6)) + 4294967296 * (W4 + W5 + W6 + p7) := by omega
  have d3 : z / 4294967296 = W4 + W5 + W6 + p7 := by
    rw [z2]
    exact dv_b _ _ _ (by omega)
  rw [d3]
  have t : z + (W4 + W5 + W6 + p7) = (p0 + (p1 + (p2 + (p3 + (p4 + (p5 + (p6 + p7))))))) + 128 * (2 * (W1 + W2 + W3 + W4 + W5 + W6 + p7)) := by omega
  rw [t, Nat.add_mul_mod_self_left]
theorem bc_64 (N : Nat) (V y z : Nat) (eV : V = pA 6148914691236517205 3689348814741910323 1085102592571150095 N) (ey : y = V + V / 256) (ez : z = y + y / 65536) : (z + z / 4294967296) % 128 = cnt (kb (lN N)) 64 := by
  have e : cnt (kb (lN N)) 64 = cnt (fun i => N.testBit i) (8 + (8 + (8 + (8 + (8 + (8 + (8 + (8 + 0)))))))) := cnt_cong (fun j hj => kb_lN hj)
  rw [e, cnt_by, cnt_by, cnt_by, cnt_by, cnt_by, cnt_by, cnt_by, cnt_by]
  rw [p_8b, pA_0] at eV
  have q : ∀ n, pop8 (n % 256) ≤ 8 := fun n => (q_3 _ (Nat.mod_lt _ (by decide))).2.2.2
  refine (v_8 _ _ _ _ _ _ _ _ (q _) (q _) (q _) (q _) (q _) (q _) (q _) V y z _ _ _ _ _ _ rfl rfl rfl rfl rfl rfl eV ey ez).trans (Nat.mod_eq_of_lt ?_)
  have b0 := q N
  have b1 := q (N / 256)
  have b2 := q (N / 256 / 256)
  have b3 := q (N / 256 / 256 / 256)
  have b4 := q (N / 256 / 256 / 256 / 256)
  have b5 := q (N / 256 / 256 / 256 / 256 / 256)
  have b6 := q (N / 256 / 256 / 256 / 256 / 256 / 256)
  have b7 := q (N / 256 / 256 / 256 / 256 / 256 / 256 / 256)
  clear eV ey ez e
  exact Nat.lt_of_le_of_lt (Nat.add_le_add b0 (Nat.add_le_add b1 (Nat.add_le_add b2 (Nat.add_le_add b3 (Nat.add_le_add b4 (Nat.add_le_add b5 (Nat.add_le_add b6 b7))))))) (by decide)
theorem ct_J13_bitCount_95d88' {x : Int64} {h : Wd} : Ct mJ13_bitCount_95d88 [.long x] h (some (.int (nI (cnt (kb x) 64)))) h := by
  obtain ⟨N, hN, rfl⟩ := wb_of x
  have lA : pA1 6148914691236517205 N ≤ N := Nat.sub_le _ _
  have lB : pA2 3689348814741910323 (pA1 6148914691236517205 N) ≤ 3689348814741910323 + 3689348814741910323 := Nat.add_le_add Nat.and_le_right Nat.and_le_right
  have lC : pA 6148914691236517205 3689348814741910323 1085102592571150095 N ≤ 1085102592571150095 := Nat.and_le_right
  have E1 : lN N - (((lN N).toUInt64 >>> ((1 : Int32).toInt64.toUInt64 &&& Int64.toUInt64 63)).toInt64 &&& 6148914691236517205) = lN (pA1 6148914691236517205 N) := by
    rw [show ((lN N).toUInt64 >>> ((1 : Int32).toInt64.toUInt64 &&& Int64.toUInt64 63)).toInt64 = lN (N / 2 ^ 1) from wb_shr hN (k := 1) (by decide), show (6148914691236517205 : Int64) = lN 6148914691236517205 from rfl, wb_and (by omega) (by decide), lN_sb (Nat.le_trans Nat.and_le_left (Nat.div_le_self _ _))]
    rfl
  have E2 : (lN (pA1 6148914691236517205 N) &&& 3689348814741910323) + (((lN (pA1 6148914691236517205 N)).toUInt64 >>> ((2 : Int32).toInt64.toUInt64 &&& Int64.toUInt64 63)).toInt64 &&& 3689348814741910323) = lN (pA2 3689348814741910323 (pA1 6148914691236517205 N)) := by
    rw [show ((lN (pA1 6148914691236517205 N)).toUInt64 >>> ((2 : Int32).toInt64.toUInt64 &&& Int64.toUInt64 63)).toInt64 = lN (pA1 6148914691236517205 N / 2 ^ 2) from wb_shr (by omega) (k := 2) (by decide), show (3689348814741910323 : Int64) = lN 3689348814741910323 from rfl, wb_and (by omega) (by decide), wb_and (by omega) (by decide), lN_ad]
    rfl
  have E3 : (lN (pA2 3689348814741910323 (pA1 6148914691236517205 N)) + ((lN (pA2 3689348814741910323 (pA1 6148914691236517205 N))).toUInt64 >>> ((4 : Int32).toInt64.toUInt64 &&& Int64.toUInt64 63)).toInt64) &&& 1085102592571150095 = lN (pA 6148914691236517205 3689348814741910323 1085102592571150095 N) := by
    rw [show ((lN (pA2 3689348814741910323 (pA1 6148914691236517205 N))).toUInt64 >>> ((4 : Int32).toInt64.toUInt64 &&& Int64.toUInt64 63)).toInt64 = lN (pA2 3689348814741910323 (pA1 6148914691236517205 N) / 2 ^ 4) from wb_shr (by omega) (k := 4) (by decide), show (1085102592571150095 : Int64) = lN 1085102592571150095 from rfl, lN_ad, wb_and (by omega) (by decide)]
    rfl
  have E4 : ∀ C, C < 2 ^ 64 → lN C + ((lN C).toUInt64 >>> ((8 : Int32).toInt64.toUInt64 &&& Int64.toUInt64 63)).toInt64 = lN (C + C / 256) := fun C hC => by
    rw [show ((lN C).toUInt64 >>> ((8 : Int32).toInt64.toUInt64 &&& Int64.toUInt64 63)).toInt64 = lN (C / 2 ^ 8) from wb_shr hC (k := 8) (by decide), lN_ad]
  have E5 : ∀ C, C < 2 ^ 64 → lN C + ((lN C).toUInt64 >>> ((16 : Int32).toInt64.toUInt64 &&& Int64.toUInt64 63)).toInt64 = lN (C + C / 65536) := fun C hC => by
    rw [show ((lN C).toUInt64 >>> ((16 : Int32).toInt64.toUInt64 &&& Int64.toUInt64 63)).toInt64 = lN (C / 2 ^ 16) from wb_shr hC (k := 16) (by decide), lN_ad]
  have E7 : ∀ C, C < 2 ^ 64 → lN C + ((lN C).toUInt64 >>> ((32 : Int32).toInt64.toUInt64 &&& Int64.toUInt64 63)).toInt64 = lN (C + C / 4294967296) := fun C hC => by
    rw [show ((lN C).toUInt64 >>> ((32 : Int32).toInt64.toUInt64 &&& Int64.toUInt64 63)).toInt64 = lN (C / 2 ^ 32) from wb_shr hC (k := 32) (by decide), lN_ad]
  have E6 : ∀ C, nI C &&& 127 = nI (C % 128) := fun C => by
    rw [show (127 : Int32) = nI 127 from rfl, nx_and, show C &&& 127 = C % 128 from Nat.and_two_pow_sub_one_eq_mod C 7]
  generalize hV : pA 6148914691236517205 3689348814741910323 1085102592571150095 N = V at *
  refine Ct.of (Z := List.replicate 0 .null) (by decide) (Nat.le_of_ble_eq_true rfl) (fun z hz => List.eq_of_mem_replicate hz) ?_
  show WW mJ13_bitCount_95d88 0 [.long (lN N), .null] [] _ _ _
  refine r_lload_0 (pc := 0) dJ13_bitCount_95d88_0 ?_
  refine r_lload_0 (pc := 1) dJ13_bitCount_95d88_1 ?_
  refine r_iconst (pc := 2) 1 dJ13_bitCount_95d88_2 (by decide) ?_
  refine r_lushr (pc := 3) dJ13_bitCount_95d88_3 ?_
  refine r_ldc2 (pc := 4) dJ13_bitCount_95d88_4 kl_J13_314 ?_
  refine r_land (pc := 7) dJ13_bitCount_95d88_7 ?_
  refine r_lsub (pc := 8) dJ13_bitCount_95d88_8 ?_
  rw [E1]
  refine r_lstore_0 (pc := 9) dJ13_bitCount_95d88_9 (by decide) ?_
  refine r_lload_0 (pc := 10) dJ13_bitCount_95d88_10 ?_
  refine r_ldc2 (pc := 11) dJ13_bitCount_95d88_11 kl_J13_316 ?_
  refine r_land (pc := 14) dJ13_bitCount_95d88_14 ?_
  refine r_lload_0 (pc := 15) dJ13_bitCount_95d88_15 ?_
  refine r_iconst (pc := 16) 2 dJ13_bitCount_95d88_16 (by decide) ?_
  refine r_lushr (pc := 17) dJ13_bitCount_95d88_17 ?_
  refine r_ldc2 (pc := 18) dJ13_bitCount_95d88_18 kl_J13_316 ?_
  refine r_land (pc := 21) dJ13_bitCount_95d88_21 ?_
  refine r_ladd (pc := 22) dJ13_bitCount_95d88_22 ?_
  rw [E2]
  refine r_lstore_0 (pc := 23) dJ13_bitCount_95d88_23 (by decide) ?_
  refine r_lload_0 (pc := 24) dJ13_bitCount_95d88_24 ?_
  refine r_lload_0 (pc := 25) dJ13_bitCount_95d88_25 ?_
  refine r_iconst (pc := 26) 4 dJ13_bitCount_95d88_26 (by decide) ?_
  refine r_lushr (pc := 27) dJ13_bitCount_95d88_27 ?_
  refine r_ladd (pc := 28) dJ13_bitCount_95d88_28 ?_
  refine r_ldc2 (pc := 29) dJ13_bitCount_95d88_29 kl_J13_318 ?_
  refine r_land (pc := 32) dJ13_bitCount_95d88_32 ?_
  rw [E3]
  refine r_lstore_0 (pc := 33) dJ13_bitCount_95d88_33 (by decide) ?_
  refine r_lload_0 (pc := 34) dJ13_bitCount_95d88_34 ?_
  refine r_lload_0 (pc := 35) dJ13_bitCount_95d88_35 ?_
  refine r_bipush (pc := 36) 8 dJ13_bitCount_95d88_36 (by decide) ?_
  refine r_lushr (pc := 38) dJ13_bitCount_95d88_38 ?_
  refine r_ladd (pc := 39) dJ13_bitCount_95d88_39 ?_
  rw [E4 _ (by omega)]
  refine r_lstore_0 (pc := 40) dJ13_bitCount_95d88_40 (by decide) ?_
  refine r_lload_0 (pc := 41) dJ13_bitCount_95d88_41 ?_
  refine r_lload_0 (pc := 42) dJ13_bitCount_95d88_42 ?_
  refine r_bipush (pc := 43) 16 dJ13_bitCount_95d88_43 (by decide) ?_
  refine r_lushr (pc := 45) dJ13_bitCount_95d88_45 ?_
  refine r_ladd (pc := 46) dJ13_bitCount_95d88_46 ?_
  rw [E5 _ (by omega)]
  refine r_lstore_0 (pc := 47) dJ13_bitCount_95d88_47 (by decide) ?_
  refine r_lload_0 (pc := 48) dJ13_bitCount_95d88_48 ?_
  refine r_lload_0 (pc := 49) dJ13_bitCount_95d88_49 ?_
  refine r_bipush (pc := 50) 32 dJ13_bitCount_95d88_50 (by decide) ?_
  refine r_lushr (pc := 52) dJ13_bitCount_95d88_52 ?_
  refine r_ladd (pc := 53) dJ13_bitCount_95d88_53 ?_
  rw [E7 _ (by omega)]
  refine r_lstore_0 (pc := 54) dJ13_bitCount_95d88_54 (by decide) ?_
  refine r_lload_0 (pc := 55) dJ13_bitCount_95d88_55 ?_
  refine r_l2i (pc := 56) dJ13_bitCount_95d88_56 ?_
  rw [lN_i]
  refine r_bipush (pc := 57) 127 dJ13_bitCount_95d88_57 (by decide) ?_
  refine r_iand (pc := 59) dJ13_bitCount_95d88_59 ?_
  rw [E6, bc_64 N V _ _ hV.symm rfl rfl]
  refine r_iret (pc := 60) dJ13_bitCount_95d88_60 rfl (by first | rfl | simp_all [bI]) rfl
