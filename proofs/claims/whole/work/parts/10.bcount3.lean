/-! COUNT OF BITS OF A LONG: the walk -/
theorem ct_J13_bitCount_95d88 {x : Int64} {h : Wd} : Ct mJ13_bitCount_95d88 [.long x] h (some (.int (nI (cnt (kb x) 64)))) h := by
  obtain ⟨N, hN, rfl⟩ := wb_of x
  have lA : pA1 6148914691236517205 N ≤ N := Nat.sub_le _ _
  have lB : pA2 3689348814741910323 (pA1 6148914691236517205 N) ≤ 3689348814741910323 + 3689348814741910323 := Nat.add_le_add Nat.and_le_right Nat.and_le_right
  have lC : pA 6148914691236517205 3689348814741910323 1085102592571150095 N ≤ 1085102592571150095 := Nat.and_le_right
  have E1 : lN N - (((lN N).toUInt64 >>> ((1 : Int32).toInt64.toUInt64 &&& Int64.toUInt64 63)).toInt64 &&& 6148914691236517205) = lN (pA1 6148914691236517205 N) := by
    rw [show ((lN N).toUInt64 >>> ((1 : Int32).toInt64.toUInt64 &&& Int64.toUInt64 63)).toInt64 = lN (N / 2 ^ 1) from wb_shr hN (k := 1) (by decide), show (6148914691236517205 : Int64) = lN 6148914691236517205 from rfl, wb_and (by omega) (by decide), lN_sb (Nat.le_trans Nat.and_le_left (Nat.div_le_self _ _))]
    rfl
  have E2 : (lN (pA1 6148914691236517205 N) &&& 3689348814741910323) + (((lN (pA1 6148914691236517205 N)).toUInt64 >>> ((2 : Int32).toInt64.toUInt64 &&& Int64.toUInt64 63)).toInt64 &&& 3689348814741910323) = lN (pA2 3689348814741910323 (pA1 6148914691236517205 N)) := by
    rw [show ((lN (pA1 6148914691236517205 N)).toUInt64 >>> ((2 : Int32).toInt64.toUInt64 &&& Int64.toUInt64 63)).toInt64 = lN (pA1 6148914691236517205 N / 2 ^ 2) from wb_shr (by omega) (k := 2) (by decide), show (3689348814741910323 : Int64) = lN 3689348814741910323 from rfl, wb_and (by omega) (by decide), wb_and (by omega) (by decide), lN_ad]
    rfl
  have E3 : (lN (pA2 3689348814741910323 (pA1 6148914691236517205 N)) + ((lN (pA2 3689348814741910323 (pA1 6148914691236517205 N))).toUInt64 >>> ((4 : Int32).toInt64.toUInt64 &&& Int64.toUInt64 63)).toInt64) &&& 1085102592571150095 = lN (pA 6148914691236517205 3689348814741910323 1085102592571150095 N) := by
    rw [show ((lN (pA2 3689348814741910323 (pA1 6148914691236517205 N))).toUInt64 >>> ((4 : Int32).toInt64.toUInt64 &&& Int64.toUInt64 63)).toInt64 = lN (pA2 3689348814741910323 (pA1 6148914691236517205 N) / 2 ^ 4) from wb_shr (by omega) (k := 4) (by decide), show (1085102592571150095 : Int64) = lN 1085102592571150095 from rfl, lN_ad, wb_and (by omega) (by decide)]
    rfl
  have E4 : ∀ C, C < 2 ^ 64 → lN C + ((lN C).toUInt64 >>> ((8 : Int32).toInt64.toUInt64 &&& Int64.toUInt64 63)).toInt64 = lN (C + C / 256) := fun C hC => by
    rw [show ((lN C).toUInt64 >>> ((8 : Int32).toInt64.toUInt64 &&& Int64.toUInt64 63)).toInt64 = lN (C / 2 ^ 8) from wb_shr hC (k := 8) (by decide), lN_ad]
  have E5 : ∀ C, C < 2 ^ 64 → lN C + ((lN C).toUInt64 >>> ((16 : Int32).toInt64.toUInt64 &&& Int64.toUInt64 63)).toInt64 = lN (C + C / 65536) := fun C hC => by
    rw [show ((lN C).toUInt64 >>> ((16 : Int32).toInt64.toUInt64 &&& Int64.toUInt64 63)).toInt64 = lN (C / 2 ^ 16) from wb_shr hC (k := 16) (by decide), lN_ad]
  have E7 : ∀ C, C < 2 ^ 64 → lN C + ((lN C).toUInt64 >>> ((32 : Int32).toInt64.toUInt64 &&& Int64.toUInt64 63)).toInt64 = lN (C + C / 4294967296) := fun C hC => by
    rw [show ((lN C).toUInt64 >>> ((32 : Int32).toInt64.toUInt64 &&& Int64.toUInt64 63)).toInt64 = lN (C / 2 ^ 32) from wb_shr hC (k := 32) (by decide), lN_ad]
  have E6 : ∀ C, nI C &&& 127 = nI (C % 128) := fun C => by
    rw [show (127 : Int32) = nI 127 from rfl, nx_and, show C &&& 127 = C % 128 from Nat.and_two_pow_sub_one_eq_mod C 7]
  generalize hV : pA 6148914691236517205 3689348814741910323 1085102592571150095 N = V at *
  refine Ct.of (Z := List.replicate 0 .null) (by decide) (Nat.le_of_ble_eq_true rfl) (fun z hz => List.eq_of_mem_replicate hz) ?_
  show WW mJ13_bitCount_95d88 0 [.long (lN N), .null] [] _ _ _
  refine r_lload_0 (pc := 0) dJ13_bitCount_95d88_0 ?_
  refine r_lload_0 (pc := 1) dJ13_bitCount_95d88_1 ?_
  refine r_iconst (pc := 2) 1 dJ13_bitCount_95d88_2 (by decide) ?_
  refine r_lushr (pc := 3) dJ13_bitCount_95d88_3 ?_
  refine r_ldc2 (pc := 4) dJ13_bitCount_95d88_4 kl_J13_314 ?_
  refine r_land (pc := 7) dJ13_bitCount_95d88_7 ?_
  refine r_lsub (pc := 8) dJ13_bitCount_95d88_8 ?_
  rw [E1]
  refine r_lstore_0 (pc := 9) dJ13_bitCount_95d88_9 (by decide) ?_
  refine r_lload_0 (pc := 10) dJ13_bitCount_95d88_10 ?_
  refine r_ldc2 (pc := 11) dJ13_bitCount_95d88_11 kl_J13_316 ?_
  refine r_land (pc := 14) dJ13_bitCount_95d88_14 ?_
  refine r_lload_0 (pc := 15) dJ13_bitCount_95d88_15 ?_
  refine r_iconst (pc := 16) 2 dJ13_bitCount_95d88_16 (by decide) ?_
  refine r_lushr (pc := 17) dJ13_bitCount_95d88_17 ?_
  refine r_ldc2 (pc := 18) dJ13_bitCount_95d88_18 kl_J13_316 ?_
  refine r_land (pc := 21) dJ13_bitCount_95d88_21 ?_
  refine r_ladd (pc := 22) dJ13_bitCount_95d88_22 ?_
  rw [E2]
  refine r_lstore_0 (pc := 23) dJ13_bitCount_95d88_23 (by decide) ?_
  refine r_lload_0 (pc := 24) dJ13_bitCount_95d88_24 ?_
  refine r_lload_0 (pc := 25) dJ13_bitCount_95d88_25 ?_
  refine r_iconst (pc := 26) 4 dJ13_bitCount_95d88_26 (by decide) ?_
  refine r_lushr (pc := 27) dJ13_bitCount_95d88_27 ?_
  refine r_ladd (pc := 28) dJ13_bitCount_95d88_28 ?_
  refine r_ldc2 (pc := 29) dJ13_bitCount_95d88_29 kl_J13_318 ?_
  refine r_land (pc := 32) dJ13_bitCount_95d88_32 ?_
  rw [E3]
  refine r_lstore_0 (pc := 33) dJ13_bitCount_95d88_33 (by decide) ?_
  refine r_lload_0 (pc := 34) dJ13_bitCount_95d88_34 ?_
  refine r_lload_0 (pc := 35) dJ13_bitCount_95d88_35 ?_
  refine r_bipush (pc := 36) 8 dJ13_bitCount_95d88_36 (by decide) ?_
  refine r_lushr (pc := 38) dJ13_bitCount_95d88_38 ?_
  refine r_ladd (pc := 39) dJ13_bitCount_95d88_39 ?_
  rw [E4 _ (by omega)]
  refine r_lstore_0 (pc := 40) dJ13_bitCount_95d88_40 (by decide) ?_
  refine r_lload_0 (pc := 41) dJ13_bitCount_95d88_41 ?_
  refine r_lload_0 (pc := 42) dJ13_bitCount_95d88_42 ?_
  refine r_bipush (pc := 43) 16 dJ13_bitCount_95d88_43 (by decide) ?_
  refine r_lushr (pc := 45) dJ13_bitCount_95d88_45 ?_
  refine r_ladd (pc := 46) dJ13_bitCount_95d88_46 ?_
  rw [E5 _ (by omega)]
  refine r_lstore_0 (pc := 47) dJ13_bitCount_95d88_47 (by decide) ?_
  refine r_lload_0 (pc := 48) dJ13_bitCount_95d88_48 ?_
  refine r_lload_0 (pc := 49) dJ13_bitCount_95d88_49 ?_
  refine r_bipush (pc := 50) 32 dJ13_bitCount_95d88_50 (by decide) ?_
  refine r_lushr (pc := 52) dJ13_bitCount_95d88_52 ?_
  refine r_ladd (pc := 53) dJ13_bitCount_95d88_53 ?_
  rw [E7 _ (by omega)]
  refine r_lstore_0 (pc := 54) dJ13_bitCount_95d88_54 (by decide) ?_
  refine r_lload_0 (pc := 55) dJ13_bitCount_95d88_55 ?_
  refine r_l2i (pc := 56) dJ13_bitCount_95d88_56 ?_
  rw [lN_i]
  refine r_bipush (pc := 57) 127 dJ13_bitCount_95d88_57 (by decide) ?_
  refine r_iand (pc := 59) dJ13_bitCount_95d88_59 ?_
  rw [E6, bc_64 N V _ _ hV.symm rfl rfl]
  refine r_iret (pc := 60) dJ13_bitCount_95d88_60 rfl (by first | rfl | simp_all [bI]) rfl
