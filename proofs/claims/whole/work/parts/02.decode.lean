theorem dX0_init_0 : decode cX0_init 0 = .ok (.aload_n 0, 1) := by decide +kernel
theorem dX0_init_1 : decode cX0_init 1 = .ok (.invokespecial 3, 3) := by decide +kernel
theorem dX0_init_4 : decode cX0_init 4 = .ok (.aload_n 0, 1) := by decide +kernel
theorem dX0_init_5 : decode cX0_init 5 = .ok (.bipush 64, 2) := by decide +kernel
theorem dX0_init_7 : decode cX0_init 7 = .ok (.newarray .int, 2) := by decide +kernel
theorem dX0_init_9 : decode cX0_init 9 = .ok (.putfield 9, 3) := by decide +kernel
theorem dX0_init_12 : decode cX0_init 12 = .ok (.aload_n 0, 1) := by decide +kernel
theorem dX0_init_13 : decode cX0_init 13 = .ok (.bipush 64, 2) := by decide +kernel
theorem dX0_init_15 : decode cX0_init 15 = .ok (.newarray .int, 2) := by decide +kernel
theorem dX0_init_17 : decode cX0_init 17 = .ok (.putfield 15, 3) := by decide +kernel
theorem dX0_init_20 : decode cX0_init 20 = .ok (.iconst 0, 1) := by decide +kernel
theorem dX0_init_21 : decode cX0_init 21 = .ok (.istore_n 1, 1) := by decide +kernel
theorem dX0_init_22 : decode cX0_init 22 = .ok (.iload_n 1, 1) := by decide +kernel
theorem dX0_init_23 : decode cX0_init 23 = .ok (.bipush 64, 2) := by decide +kernel
theorem dX0_init_25 : decode cX0_init 25 = .ok (.if_icmp .ge 16, 3) := by decide +kernel
theorem dX0_init_28 : decode cX0_init 28 = .ok (.aload_n 0, 1) := by decide +kernel
theorem dX0_init_29 : decode cX0_init 29 = .ok (.getfield 15, 3) := by decide +kernel
theorem dX0_init_32 : decode cX0_init 32 = .ok (.iload_n 1, 1) := by decide +kernel
theorem dX0_init_33 : decode cX0_init 33 = .ok (.iconst (-1), 1) := by decide +kernel
theorem dX0_init_34 : decode cX0_init 34 = .ok (.iastore, 1) := by decide +kernel
theorem dX0_init_35 : decode cX0_init 35 = .ok (.iinc 1 1, 3) := by decide +kernel
theorem dX0_init_38 : decode cX0_init 38 = .ok (.goto (-16), 3) := by decide +kernel
theorem dX0_init_41 : decode cX0_init 41 = .ok (.aload_n 0, 1) := by decide +kernel
theorem dX0_init_42 : decode cX0_init 42 = .ok (.bipush 6, 2) := by decide +kernel
theorem dX0_init_44 : decode cX0_init 44 = .ok (.newarray .int, 2) := by decide +kernel
theorem dX0_init_46 : decode cX0_init 46 = .ok (.putfield 18, 3) := by decide +kernel
theorem dX0_init_49 : decode cX0_init 49 = .ok (.aload_n 0, 1) := by decide +kernel
theorem dX0_init_50 : decode cX0_init 50 = .ok (.bipush 6, 2) := by decide +kernel
theorem dX0_init_52 : decode cX0_init 52 = .ok (.newarray .int, 2) := by decide +kernel
theorem dX0_init_54 : decode cX0_init 54 = .ok (.putfield 21, 3) := by decide +kernel
theorem dX0_init_57 : decode cX0_init 57 = .ok (.aload_n 0, 1) := by decide +kernel
theorem dX0_init_58 : decode cX0_init 58 = .ok (.bipush 6, 2) := by decide +kernel
theorem dX0_init_60 : decode cX0_init 60 = .ok (.newarray .long, 2) := by decide +kernel
theorem dX0_init_62 : decode cX0_init 62 = .ok (.putfield 24, 3) := by decide +kernel
theorem dX0_init_65 : decode cX0_init 65 = .ok (.aload_n 0, 1) := by decide +kernel
theorem dX0_init_66 : decode cX0_init 66 = .ok (.bipush 6, 2) := by decide +kernel
theorem dX0_init_68 : decode cX0_init 68 = .ok (.newarray .int, 2) := by decide +kernel
theorem dX0_init_70 : decode cX0_init 70 = .ok (.putfield 28, 3) := by decide +kernel
theorem dX0_init_73 : decode cX0_init 73 = .ok (.return_, 1) := by decide +kernel
theorem dX0_copyFrom_0 : decode cX0_copyFrom 0 = .ok (.aload_n 1, 1) := by decide +kernel
theorem dX0_copyFrom_1 : decode cX0_copyFrom 1 = .ok (.getfield 9, 3) := by decide +kernel
theorem dX0_copyFrom_4 : decode cX0_copyFrom 4 = .ok (.iconst 0, 1) := by decide +kernel
theorem dX0_copyFrom_5 : decode cX0_copyFrom 5 = .ok (.aload_n 0, 1) := by decide +kernel
theorem dX0_copyFrom_6 : decode cX0_copyFrom 6 = .ok (.getfield 9, 3) := by decide +kernel
theorem dX0_copyFrom_9 : decode cX0_copyFrom 9 = .ok (.iconst 0, 1) := by decide +kernel
theorem dX0_copyFrom_10 : decode cX0_copyFrom 10 = .ok (.bipush 64, 2) := by decide +kernel
theorem dX0_copyFrom_12 : decode cX0_copyFrom 12 = .ok (.invokestatic 31, 3) := by decide +kernel
theorem dX0_copyFrom_15 : decode cX0_copyFrom 15 = .ok (.aload_n 1, 1) := by decide +kernel
theorem dX0_copyFrom_16 : decode cX0_copyFrom 16 = .ok (.getfield 15, 3) := by decide +kernel
theorem dX0_copyFrom_19 : decode cX0_copyFrom 19 = .ok (.iconst 0, 1) := by decide +kernel
theorem dX0_copyFrom_20 : decode cX0_copyFrom 20 = .ok (.aload_n 0, 1) := by decide +kernel
theorem dX0_copyFrom_21 : decode cX0_copyFrom 21 = .ok (.getfield 15, 3) := by decide +kernel
theorem dX0_copyFrom_24 : decode cX0_copyFrom 24 = .ok (.iconst 0, 1) := by decide +kernel
theorem dX0_copyFrom_25 : decode cX0_copyFrom 25 = .ok (.bipush 64, 2) := by decide +kernel
theorem dX0_copyFrom_27 : decode cX0_copyFrom 27 = .ok (.invokestatic 31, 3) := by decide +kernel
theorem dX0_copyFrom_30 : decode cX0_copyFrom 30 = .ok (.aload_n 1, 1) := by decide +kernel
theorem dX0_copyFrom_31 : decode cX0_copyFrom 31 = .ok (.getfield 18, 3) := by decide +kernel
theorem dX0_copyFrom_34 : decode cX0_copyFrom 34 = .ok (.iconst 0, 1) := by decide +kernel
theorem dX0_copyFrom_35 : decode cX0_copyFrom 35 = .ok (.aload_n 0, 1) := by decide +kernel
theorem dX0_copyFrom_36 : decode cX0_copyFrom 36 = .ok (.getfield 18, 3) := by decide +kernel
theorem dX0_copyFrom_39 : decode cX0_copyFrom 39 = .ok (.iconst 0, 1) := by decide +kernel
theorem dX0_copyFrom_40 : decode cX0_copyFrom 40 = .ok (.bipush 6, 2) := by decide +kernel
theorem dX0_copyFrom_42 : decode cX0_copyFrom 42 = .ok (.invokestatic 31, 3) := by decide +kernel
theorem dX0_copyFrom_45 : decode cX0_copyFrom 45 = .ok (.aload_n 1, 1) := by decide +kernel
theorem dX0_copyFrom_46 : decode cX0_copyFrom 46 = .ok (.getfield 21, 3) := by decide +kernel
theorem dX0_copyFrom_49 : decode cX0_copyFrom 49 = .ok (.iconst 0, 1) := by decide +kernel
theorem dX0_copyFrom_50 : decode cX0_copyFrom 50 = .ok (.aload_n 0, 1) := by decide +kernel
theorem dX0_copyFrom_51 : decode cX0_copyFrom 51 = .ok (.getfield 21, 3) := by decide +kernel
theorem dX0_copyFrom_54 : decode cX0_copyFrom 54 = .ok (.iconst 0, 1) := by decide +kernel
theorem dX0_copyFrom_55 : decode cX0_copyFrom 55 = .ok (.bipush 6, 2) := by decide +kernel
theorem dX0_copyFrom_57 : decode cX0_copyFrom 57 = .ok (.invokestatic 31, 3) := by decide +kernel
theorem dX0_copyFrom_60 : decode cX0_copyFrom 60 = .ok (.aload_n 1, 1) := by decide +kernel
theorem dX0_copyFrom_61 : decode cX0_copyFrom 61 = .ok (.getfield 24, 3) := by decide +kernel
theorem dX0_copyFrom_64 : decode cX0_copyFrom 64 = .ok (.iconst 0, 1) := by decide +kernel
theorem dX0_copyFrom_65 : decode cX0_copyFrom 65 = .ok (.aload_n 0, 1) := by decide +kernel
theorem dX0_copyFrom_66 : decode cX0_copyFrom 66 = .ok (.getfield 24, 3) := by decide +kernel
theorem dX0_copyFrom_69 : decode cX0_copyFrom 69 = .ok (.iconst 0, 1) := by decide +kernel
theorem dX0_copyFrom_70 : decode cX0_copyFrom 70 = .ok (.bipush 6, 2) := by decide +kernel
theorem dX0_copyFrom_72 : decode cX0_copyFrom 72 = .ok (.invokestatic 31, 3) := by decide +kernel
theorem dX0_copyFrom_75 : decode cX0_copyFrom 75 = .ok (.aload_n 0, 1) := by decide +kernel
theorem dX0_copyFrom_76 : decode cX0_copyFrom 76 = .ok (.aload_n 1, 1) := by decide +kernel
theorem dX0_copyFrom_77 : decode cX0_copyFrom 77 = .ok (.getfield 37, 3) := by decide +kernel
theorem dX0_copyFrom_80 : decode cX0_copyFrom 80 = .ok (.putfield 37, 3) := by decide +kernel
theorem dX0_copyFrom_83 : decode cX0_copyFrom 83 = .ok (.aload_n 0, 1) := by decide +kernel
theorem dX0_copyFrom_84 : decode cX0_copyFrom 84 = .ok (.aload_n 1, 1) := by decide +kernel
theorem dX0_copyFrom_85 : decode cX0_copyFrom 85 = .ok (.getfield 41, 3) := by decide +kernel
theorem dX0_copyFrom_88 : decode cX0_copyFrom 88 = .ok (.putfield 41, 3) := by decide +kernel
theorem dX0_copyFrom_91 : decode cX0_copyFrom 91 = .ok (.aload_n 0, 1) := by decide +kernel
theorem dX0_copyFrom_92 : decode cX0_copyFrom 92 = .ok (.aload_n 1, 1) := by decide +kernel
theorem dX0_copyFrom_93 : decode cX0_copyFrom 93 = .ok (.getfield 44, 3) := by decide +kernel
theorem dX0_copyFrom_96 : decode cX0_copyFrom 96 = .ok (.putfield 44, 3) := by decide +kernel
theorem dX0_copyFrom_99 : decode cX0_copyFrom 99 = .ok (.aload_n 0, 1) := by decide +kernel
theorem dX0_copyFrom_100 : decode cX0_copyFrom 100 = .ok (.iconst 0, 1) := by decide +kernel
theorem dX0_copyFrom_101 : decode cX0_copyFrom 101 = .ok (.putfield 47, 3) := by decide +kernel
theorem dX0_copyFrom_104 : decode cX0_copyFrom 104 = .ok (.return_, 1) := by decide +kernel
theorem dX0_goldOf_0 : decode cX0_goldOf 0 = .ok (.iload_n 1, 1) := by decide +kernel
theorem dX0_goldOf_1 : decode cX0_goldOf 1 = .ok (.invokestatic 50, 3) := by decide +kernel
theorem dX0_goldOf_4 : decode cX0_goldOf 4 = .ok (.ifCond .eq 12, 3) := by decide +kernel
theorem dX0_goldOf_7 : decode cX0_goldOf 7 = .ok (.aload_n 0, 1) := by decide +kernel
theorem dX0_goldOf_8 : decode cX0_goldOf 8 = .ok (.getfield 9, 3) := by decide +kernel
theorem dX0_goldOf_11 : decode cX0_goldOf 11 = .ok (.iload_n 1, 1) := by decide +kernel
theorem dX0_goldOf_12 : decode cX0_goldOf 12 = .ok (.iaload, 1) := by decide +kernel
theorem dX0_goldOf_13 : decode cX0_goldOf 13 = .ok (.goto 4, 3) := by decide +kernel
theorem dX0_goldOf_16 : decode cX0_goldOf 16 = .ok (.iconst 0, 1) := by decide +kernel
theorem dX0_goldOf_17 : decode cX0_goldOf 17 = .ok (.ireturn, 1) := by decide +kernel
theorem dX0_putGold_0 : decode cX0_putGold 0 = .ok (.iload_n 1, 1) := by decide +kernel
theorem dX0_putGold_1 : decode cX0_putGold 1 = .ok (.invokestatic 50, 3) := by decide +kernel
theorem dX0_putGold_4 : decode cX0_putGold 4 = .ok (.ifCond .eq 10, 3) := by decide +kernel
theorem dX0_putGold_7 : decode cX0_putGold 7 = .ok (.aload_n 0, 1) := by decide +kernel
theorem dX0_putGold_8 : decode cX0_putGold 8 = .ok (.getfield 9, 3) := by decide +kernel
theorem dX0_putGold_11 : decode cX0_putGold 11 = .ok (.iload_n 1, 1) := by decide +kernel
theorem dX0_putGold_12 : decode cX0_putGold 12 = .ok (.iload_n 2, 1) := by decide +kernel
theorem dX0_putGold_13 : decode cX0_putGold 13 = .ok (.iastore, 1) := by decide +kernel
theorem dX0_putGold_14 : decode cX0_putGold 14 = .ok (.return_, 1) := by decide +kernel
theorem dX0_goldIn_0 : decode cX0_goldIn 0 = .ok (.iconst 0, 1) := by decide +kernel
theorem dX0_goldIn_1 : decode cX0_goldIn 1 = .ok (.istore_n 3, 1) := by decide +kernel
theorem dX0_goldIn_2 : decode cX0_goldIn 2 = .ok (.iconst 0, 1) := by decide +kernel
theorem dX0_goldIn_3 : decode cX0_goldIn 3 = .ok (.istore 4, 2) := by decide +kernel
theorem dX0_goldIn_5 : decode cX0_goldIn 5 = .ok (.iload 4, 2) := by decide +kernel
theorem dX0_goldIn_7 : decode cX0_goldIn 7 = .ok (.bipush 64, 2) := by decide +kernel
theorem dX0_goldIn_9 : decode cX0_goldIn 9 = .ok (.if_icmp .ge 30, 3) := by decide +kernel
theorem dX0_goldIn_12 : decode cX0_goldIn 12 = .ok (.lload_n 1, 1) := by decide +kernel
theorem dX0_goldIn_13 : decode cX0_goldIn 13 = .ok (.iload 4, 2) := by decide +kernel
theorem dX0_goldIn_15 : decode cX0_goldIn 15 = .ok (.lushr, 1) := by decide +kernel
theorem dX0_goldIn_16 : decode cX0_goldIn 16 = .ok (.lconst 1, 1) := by decide +kernel
theorem dX0_goldIn_17 : decode cX0_goldIn 17 = .ok (.land, 1) := by decide +kernel
theorem dX0_goldIn_18 : decode cX0_goldIn 18 = .ok (.lconst 1, 1) := by decide +kernel
theorem dX0_goldIn_19 : decode cX0_goldIn 19 = .ok (.lcmp, 1) := by decide +kernel
theorem dX0_goldIn_20 : decode cX0_goldIn 20 = .ok (.ifCond .ne 13, 3) := by decide +kernel
theorem dX0_goldIn_23 : decode cX0_goldIn 23 = .ok (.iload_n 3, 1) := by decide +kernel
theorem dX0_goldIn_24 : decode cX0_goldIn 24 = .ok (.aload_n 0, 1) := by decide +kernel
theorem dX0_goldIn_25 : decode cX0_goldIn 25 = .ok (.getfield 9, 3) := by decide +kernel
theorem dX0_goldIn_28 : decode cX0_goldIn 28 = .ok (.iload 4, 2) := by decide +kernel
theorem dX0_goldIn_30 : decode cX0_goldIn 30 = .ok (.iaload, 1) := by decide +kernel
theorem dX0_goldIn_31 : decode cX0_goldIn 31 = .ok (.iadd, 1) := by decide +kernel
theorem dX0_goldIn_32 : decode cX0_goldIn 32 = .ok (.istore_n 3, 1) := by decide +kernel
theorem dX0_goldIn_33 : decode cX0_goldIn 33 = .ok (.iinc 4 1, 3) := by decide +kernel
theorem dX0_goldIn_36 : decode cX0_goldIn 36 = .ok (.goto (-31), 3) := by decide +kernel
theorem dX0_goldIn_39 : decode cX0_goldIn 39 = .ok (.iload_n 3, 1) := by decide +kernel
theorem dX0_goldIn_40 : decode cX0_goldIn 40 = .ok (.ireturn, 1) := by decide +kernel
theorem dX0_claimerOf_0 : decode cX0_claimerOf 0 = .ok (.iload_n 1, 1) := by decide +kernel
theorem dX0_claimerOf_1 : decode cX0_claimerOf 1 = .ok (.invokestatic 50, 3) := by decide +kernel
theorem dX0_claimerOf_4 : decode cX0_claimerOf 4 = .ok (.ifCond .eq 12, 3) := by decide +kernel
theorem dX0_claimerOf_7 : decode cX0_claimerOf 7 = .ok (.aload_n 0, 1) := by decide +kernel
theorem dX0_claimerOf_8 : decode cX0_claimerOf 8 = .ok (.getfield 15, 3) := by decide +kernel
theorem dX0_claimerOf_11 : decode cX0_claimerOf 11 = .ok (.iload_n 1, 1) := by decide +kernel
theorem dX0_claimerOf_12 : decode cX0_claimerOf 12 = .ok (.iaload, 1) := by decide +kernel
theorem dX0_claimerOf_13 : decode cX0_claimerOf 13 = .ok (.goto 4, 3) := by decide +kernel
theorem dX0_claimerOf_16 : decode cX0_claimerOf 16 = .ok (.iconst (-1), 1) := by decide +kernel
theorem dX0_claimerOf_17 : decode cX0_claimerOf 17 = .ok (.ireturn, 1) := by decide +kernel
theorem dX0_setClaimer_0 : decode cX0_setClaimer 0 = .ok (.iload_n 1, 1) := by decide +kernel
theorem dX0_setClaimer_1 : decode cX0_setClaimer 1 = .ok (.invokestatic 50, 3) := by decide +kernel
theorem dX0_setClaimer_4 : decode cX0_setClaimer 4 = .ok (.ifCond .eq 10, 3) := by decide +kernel
theorem dX0_setClaimer_7 : decode cX0_setClaimer 7 = .ok (.aload_n 0, 1) := by decide +kernel
theorem dX0_setClaimer_8 : decode cX0_setClaimer 8 = .ok (.getfield 15, 3) := by decide +kernel
theorem dX0_setClaimer_11 : decode cX0_setClaimer 11 = .ok (.iload_n 1, 1) := by decide +kernel
theorem dX0_setClaimer_12 : decode cX0_setClaimer 12 = .ok (.iload_n 2, 1) := by decide +kernel
theorem dX0_setClaimer_13 : decode cX0_setClaimer 13 = .ok (.iastore, 1) := by decide +kernel
theorem dX0_setClaimer_14 : decode cX0_setClaimer 14 = .ok (.return_, 1) := by decide +kernel
theorem dX0_countClaimedBy_0 : decode cX0_countClaimedBy 0 = .ok (.aload_n 0, 1) := by decide +kernel
theorem dX0_countClaimedBy_1 : decode cX0_countClaimedBy 1 = .ok (.iload_n 1, 1) := by decide +kernel
theorem dX0_countClaimedBy_2 : decode cX0_countClaimedBy 2 = .ok (.invokevirtual 54, 3) := by decide +kernel
theorem dX0_countClaimedBy_5 : decode cX0_countClaimedBy 5 = .ok (.invokestatic 58, 3) := by decide +kernel
theorem dX0_countClaimedBy_8 : decode cX0_countClaimedBy 8 = .ok (.ireturn, 1) := by decide +kernel
theorem dX0_countClaimed_0 : decode cX0_countClaimed 0 = .ok (.bipush 64, 2) := by decide +kernel
theorem dX0_countClaimed_2 : decode cX0_countClaimed 2 = .ok (.aload_n 0, 1) := by decide +kernel
theorem dX0_countClaimed_3 : decode cX0_countClaimed 3 = .ok (.iconst (-1), 1) := by decide +kernel
theorem dX0_countClaimed_4 : decode cX0_countClaimed 4 = .ok (.invokevirtual 64, 3) := by decide +kernel
theorem dX0_countClaimed_7 : decode cX0_countClaimed 7 = .ok (.isub, 1) := by decide +kernel
theorem dX0_countClaimed_8 : decode cX0_countClaimed 8 = .ok (.ireturn, 1) := by decide +kernel
theorem dX0_cellsClaimedBy_0 : decode cX0_cellsClaimedBy 0 = .ok (.lconst 0, 1) := by decide +kernel
theorem dX0_cellsClaimedBy_1 : decode cX0_cellsClaimedBy 1 = .ok (.lstore_n 2, 1) := by decide +kernel
theorem dX0_cellsClaimedBy_2 : decode cX0_cellsClaimedBy 2 = .ok (.iconst 0, 1) := by decide +kernel
theorem dX0_cellsClaimedBy_3 : decode cX0_cellsClaimedBy 3 = .ok (.istore 4, 2) := by decide +kernel
theorem dX0_cellsClaimedBy_5 : decode cX0_cellsClaimedBy 5 = .ok (.iload 4, 2) := by decide +kernel
theorem dX0_cellsClaimedBy_7 : decode cX0_cellsClaimedBy 7 = .ok (.bipush 64, 2) := by decide +kernel
theorem dX0_cellsClaimedBy_9 : decode cX0_cellsClaimedBy 9 = .ok (.if_icmp .ge 27, 3) := by decide +kernel
theorem dX0_cellsClaimedBy_12 : decode cX0_cellsClaimedBy 12 = .ok (.aload_n 0, 1) := by decide +kernel
theorem dX0_cellsClaimedBy_13 : decode cX0_cellsClaimedBy 13 = .ok (.getfield 15, 3) := by decide +kernel
theorem dX0_cellsClaimedBy_16 : decode cX0_cellsClaimedBy 16 = .ok (.iload 4, 2) := by decide +kernel
theorem dX0_cellsClaimedBy_18 : decode cX0_cellsClaimedBy 18 = .ok (.iaload, 1) := by decide +kernel
theorem dX0_cellsClaimedBy_19 : decode cX0_cellsClaimedBy 19 = .ok (.iload_n 1, 1) := by decide +kernel
theorem dX0_cellsClaimedBy_20 : decode cX0_cellsClaimedBy 20 = .ok (.if_icmp .ne 10, 3) := by decide +kernel
theorem dX0_cellsClaimedBy_23 : decode cX0_cellsClaimedBy 23 = .ok (.lload_n 2, 1) := by decide +kernel
theorem dX0_cellsClaimedBy_24 : decode cX0_cellsClaimedBy 24 = .ok (.lconst 1, 1) := by decide +kernel
theorem dX0_cellsClaimedBy_25 : decode cX0_cellsClaimedBy 25 = .ok (.iload 4, 2) := by decide +kernel
theorem dX0_cellsClaimedBy_27 : decode cX0_cellsClaimedBy 27 = .ok (.lshl, 1) := by decide +kernel
theorem dX0_cellsClaimedBy_28 : decode cX0_cellsClaimedBy 28 = .ok (.lor, 1) := by decide +kernel
theorem dX0_cellsClaimedBy_29 : decode cX0_cellsClaimedBy 29 = .ok (.lstore_n 2, 1) := by decide +kernel
theorem dX0_cellsClaimedBy_30 : decode cX0_cellsClaimedBy 30 = .ok (.iinc 4 1, 3) := by decide +kernel
theorem dX0_cellsClaimedBy_33 : decode cX0_cellsClaimedBy 33 = .ok (.goto (-28), 3) := by decide +kernel
theorem dX0_cellsClaimedBy_36 : decode cX0_cellsClaimedBy 36 = .ok (.lload_n 2, 1) := by decide +kernel
theorem dX0_cellsClaimedBy_37 : decode cX0_cellsClaimedBy 37 = .ok (.lreturn, 1) := by decide +kernel
theorem dX0_menBits_0 : decode cX0_menBits 0 = .ok (.aload_n 0, 1) := by decide +kernel
theorem dX0_menBits_1 : decode cX0_menBits 1 = .ok (.getfield 37, 3) := by decide +kernel
theorem dX0_menBits_4 : decode cX0_menBits 4 = .ok (.ireturn, 1) := by decide +kernel
theorem dX0_countMen_0 : decode cX0_countMen 0 = .ok (.aload_n 0, 1) := by decide +kernel
theorem dX0_countMen_1 : decode cX0_countMen 1 = .ok (.getfield 37, 3) := by decide +kernel
theorem dX0_countMen_4 : decode cX0_countMen 4 = .ok (.invokestatic 68, 3) := by decide +kernel
theorem dX0_countMen_7 : decode cX0_countMen 7 = .ok (.ireturn, 1) := by decide +kernel
theorem dX0_isThere_0 : decode cX0_isThere 0 = .ok (.aload_n 0, 1) := by decide +kernel
theorem dX0_isThere_1 : decode cX0_isThere 1 = .ok (.getfield 37, 3) := by decide +kernel
theorem dX0_isThere_4 : decode cX0_isThere 4 = .ok (.iload_n 1, 1) := by decide +kernel
theorem dX0_isThere_5 : decode cX0_isThere 5 = .ok (.invokestatic 72, 3) := by decide +kernel
theorem dX0_isThere_8 : decode cX0_isThere 8 = .ok (.ireturn, 1) := by decide +kernel
theorem dX0_welcome_0 : decode cX0_welcome 0 = .ok (.iload_n 1, 1) := by decide +kernel
theorem dX0_welcome_1 : decode cX0_welcome 1 = .ok (.invokestatic 76, 3) := by decide +kernel
theorem dX0_welcome_4 : decode cX0_welcome 4 = .ok (.ifCond .eq 27, 3) := by decide +kernel
theorem dX0_welcome_7 : decode cX0_welcome 7 = .ok (.aload_n 0, 1) := by decide +kernel
theorem dX0_welcome_8 : decode cX0_welcome 8 = .ok (.iload_n 1, 1) := by decide +kernel
theorem dX0_welcome_9 : decode cX0_welcome 9 = .ok (.invokevirtual 79, 3) := by decide +kernel
theorem dX0_welcome_12 : decode cX0_welcome 12 = .ok (.aload_n 0, 1) := by decide +kernel
theorem dX0_welcome_13 : decode cX0_welcome 13 = .ok (.dup, 1) := by decide +kernel
theorem dX0_welcome_14 : decode cX0_welcome 14 = .ok (.getfield 37, 3) := by decide +kernel
theorem dX0_welcome_17 : decode cX0_welcome 17 = .ok (.iconst 1, 1) := by decide +kernel
theorem dX0_welcome_18 : decode cX0_welcome 18 = .ok (.iload_n 1, 1) := by decide +kernel
theorem dX0_welcome_19 : decode cX0_welcome 19 = .ok (.ishl, 1) := by decide +kernel
theorem dX0_welcome_20 : decode cX0_welcome 20 = .ok (.ior, 1) := by decide +kernel
theorem dX0_welcome_21 : decode cX0_welcome 21 = .ok (.putfield 37, 3) := by decide +kernel
theorem dX0_welcome_24 : decode cX0_welcome 24 = .ok (.aload_n 0, 1) := by decide +kernel
theorem dX0_welcome_25 : decode cX0_welcome 25 = .ok (.getfield 18, 3) := by decide +kernel
theorem dX0_welcome_28 : decode cX0_welcome 28 = .ok (.iload_n 1, 1) := by decide +kernel
theorem dX0_welcome_29 : decode cX0_welcome 29 = .ok (.iload_n 2, 1) := by decide +kernel
theorem dX0_welcome_30 : decode cX0_welcome 30 = .ok (.iastore, 1) := by decide +kernel
theorem dX0_welcome_31 : decode cX0_welcome 31 = .ok (.return_, 1) := by decide +kernel
theorem dX0_farewell_0 : decode cX0_farewell 0 = .ok (.iload_n 1, 1) := by decide +kernel
theorem dX0_farewell_1 : decode cX0_farewell 1 = .ok (.invokestatic 76, 3) := by decide +kernel
theorem dX0_farewell_4 : decode cX0_farewell 4 = .ok (.ifCond .eq 53, 3) := by decide +kernel
theorem dX0_farewell_7 : decode cX0_farewell 7 = .ok (.aload_n 0, 1) := by decide +kernel
theorem dX0_farewell_8 : decode cX0_farewell 8 = .ok (.iload_n 1, 1) := by decide +kernel
theorem dX0_farewell_9 : decode cX0_farewell 9 = .ok (.invokevirtual 79, 3) := by decide +kernel
theorem dX0_farewell_12 : decode cX0_farewell 12 = .ok (.aload_n 0, 1) := by decide +kernel
theorem dX0_farewell_13 : decode cX0_farewell 13 = .ok (.dup, 1) := by decide +kernel
theorem dX0_farewell_14 : decode cX0_farewell 14 = .ok (.getfield 37, 3) := by decide +kernel
theorem dX0_farewell_17 : decode cX0_farewell 17 = .ok (.iconst 1, 1) := by decide +kernel
theorem dX0_farewell_18 : decode cX0_farewell 18 = .ok (.iload_n 1, 1) := by decide +kernel
theorem dX0_farewell_19 : decode cX0_farewell 19 = .ok (.ishl, 1) := by decide +kernel
theorem dX0_farewell_20 : decode cX0_farewell 20 = .ok (.iconst (-1), 1) := by decide +kernel
theorem dX0_farewell_21 : decode cX0_farewell 21 = .ok (.ixor, 1) := by decide +kernel
theorem dX0_farewell_22 : decode cX0_farewell 22 = .ok (.iand, 1) := by decide +kernel
theorem dX0_farewell_23 : decode cX0_farewell 23 = .ok (.putfield 37, 3) := by decide +kernel
theorem dX0_farewell_26 : decode cX0_farewell 26 = .ok (.iconst 0, 1) := by decide +kernel
theorem dX0_farewell_27 : decode cX0_farewell 27 = .ok (.istore_n 2, 1) := by decide +kernel
theorem dX0_farewell_28 : decode cX0_farewell 28 = .ok (.iload_n 2, 1) := by decide +kernel
theorem dX0_farewell_29 : decode cX0_farewell 29 = .ok (.bipush 64, 2) := by decide +kernel
theorem dX0_farewell_31 : decode cX0_farewell 31 = .ok (.if_icmp .ge 26, 3) := by decide +kernel
theorem dX0_farewell_34 : decode cX0_farewell 34 = .ok (.aload_n 0, 1) := by decide +kernel
theorem dX0_farewell_35 : decode cX0_farewell 35 = .ok (.getfield 15, 3) := by decide +kernel
theorem dX0_farewell_38 : decode cX0_farewell 38 = .ok (.iload_n 2, 1) := by decide +kernel
theorem dX0_farewell_39 : decode cX0_farewell 39 = .ok (.iaload, 1) := by decide +kernel
theorem dX0_farewell_40 : decode cX0_farewell 40 = .ok (.iload_n 1, 1) := by decide +kernel
theorem dX0_farewell_41 : decode cX0_farewell 41 = .ok (.if_icmp .ne 10, 3) := by decide +kernel
theorem dX0_farewell_44 : decode cX0_farewell 44 = .ok (.aload_n 0, 1) := by decide +kernel
theorem dX0_farewell_45 : decode cX0_farewell 45 = .ok (.getfield 15, 3) := by decide +kernel
theorem dX0_farewell_48 : decode cX0_farewell 48 = .ok (.iload_n 2, 1) := by decide +kernel
theorem dX0_farewell_49 : decode cX0_farewell 49 = .ok (.iconst (-1), 1) := by decide +kernel
theorem dX0_farewell_50 : decode cX0_farewell 50 = .ok (.iastore, 1) := by decide +kernel
theorem dX0_farewell_51 : decode cX0_farewell 51 = .ok (.iinc 2 1, 3) := by decide +kernel
theorem dX0_farewell_54 : decode cX0_farewell 54 = .ok (.goto (-26), 3) := by decide +kernel
theorem dX0_farewell_57 : decode cX0_farewell 57 = .ok (.return_, 1) := by decide +kernel
theorem dX0_forgetMan_0 : decode cX0_forgetMan 0 = .ok (.iload_n 1, 1) := by decide +kernel
theorem dX0_forgetMan_1 : decode cX0_forgetMan 1 = .ok (.invokestatic 76, 3) := by decide +kernel
theorem dX0_forgetMan_4 : decode cX0_forgetMan 4 = .ok (.ifCond .eq 52, 3) := by decide +kernel
theorem dX0_forgetMan_7 : decode cX0_forgetMan 7 = .ok (.aload_n 0, 1) := by decide +kernel
theorem dX0_forgetMan_8 : decode cX0_forgetMan 8 = .ok (.getfield 18, 3) := by decide +kernel
theorem dX0_forgetMan_11 : decode cX0_forgetMan 11 = .ok (.iload_n 1, 1) := by decide +kernel
theorem dX0_forgetMan_12 : decode cX0_forgetMan 12 = .ok (.iconst 0, 1) := by decide +kernel
theorem dX0_forgetMan_13 : decode cX0_forgetMan 13 = .ok (.iastore, 1) := by decide +kernel
theorem dX0_forgetMan_14 : decode cX0_forgetMan 14 = .ok (.aload_n 0, 1) := by decide +kernel
theorem dX0_forgetMan_15 : decode cX0_forgetMan 15 = .ok (.getfield 21, 3) := by decide +kernel
theorem dX0_forgetMan_18 : decode cX0_forgetMan 18 = .ok (.iload_n 1, 1) := by decide +kernel
theorem dX0_forgetMan_19 : decode cX0_forgetMan 19 = .ok (.iconst 0, 1) := by decide +kernel
theorem dX0_forgetMan_20 : decode cX0_forgetMan 20 = .ok (.iastore, 1) := by decide +kernel
theorem dX0_forgetMan_21 : decode cX0_forgetMan 21 = .ok (.aload_n 0, 1) := by decide +kernel
theorem dX0_forgetMan_22 : decode cX0_forgetMan 22 = .ok (.getfield 24, 3) := by decide +kernel
theorem dX0_forgetMan_25 : decode cX0_forgetMan 25 = .ok (.iload_n 1, 1) := by decide +kernel
theorem dX0_forgetMan_26 : decode cX0_forgetMan 26 = .ok (.lconst 0, 1) := by decide +kernel
theorem dX0_forgetMan_27 : decode cX0_forgetMan 27 = .ok (.lastore, 1) := by decide +kernel
theorem dX0_forgetMan_28 : decode cX0_forgetMan 28 = .ok (.aload_n 0, 1) := by decide +kernel
theorem dX0_forgetMan_29 : decode cX0_forgetMan 29 = .ok (.dup, 1) := by decide +kernel
theorem dX0_forgetMan_30 : decode cX0_forgetMan 30 = .ok (.getfield 41, 3) := by decide +kernel
theorem dX0_forgetMan_33 : decode cX0_forgetMan 33 = .ok (.iconst 1, 1) := by decide +kernel
theorem dX0_forgetMan_34 : decode cX0_forgetMan 34 = .ok (.iload_n 1, 1) := by decide +kernel
theorem dX0_forgetMan_35 : decode cX0_forgetMan 35 = .ok (.ishl, 1) := by decide +kernel
theorem dX0_forgetMan_36 : decode cX0_forgetMan 36 = .ok (.iconst (-1), 1) := by decide +kernel
theorem dX0_forgetMan_37 : decode cX0_forgetMan 37 = .ok (.ixor, 1) := by decide +kernel
theorem dX0_forgetMan_38 : decode cX0_forgetMan 38 = .ok (.iand, 1) := by decide +kernel
theorem dX0_forgetMan_39 : decode cX0_forgetMan 39 = .ok (.putfield 41, 3) := by decide +kernel
theorem dX0_forgetMan_42 : decode cX0_forgetMan 42 = .ok (.aload_n 0, 1) := by decide +kernel
theorem dX0_forgetMan_43 : decode cX0_forgetMan 43 = .ok (.dup, 1) := by decide +kernel
theorem dX0_forgetMan_44 : decode cX0_forgetMan 44 = .ok (.getfield 44, 3) := by decide +kernel
theorem dX0_forgetMan_47 : decode cX0_forgetMan 47 = .ok (.iconst 1, 1) := by decide +kernel
theorem dX0_forgetMan_48 : decode cX0_forgetMan 48 = .ok (.iload_n 1, 1) := by decide +kernel
theorem dX0_forgetMan_49 : decode cX0_forgetMan 49 = .ok (.ishl, 1) := by decide +kernel
theorem dX0_forgetMan_50 : decode cX0_forgetMan 50 = .ok (.iconst (-1), 1) := by decide +kernel
theorem dX0_forgetMan_51 : decode cX0_forgetMan 51 = .ok (.ixor, 1) := by decide +kernel
theorem dX0_forgetMan_52 : decode cX0_forgetMan 52 = .ok (.iand, 1) := by decide +kernel
theorem dX0_forgetMan_53 : decode cX0_forgetMan 53 = .ok (.putfield 44, 3) := by decide +kernel
theorem dX0_forgetMan_56 : decode cX0_forgetMan 56 = .ok (.return_, 1) := by decide +kernel
theorem dX0_tentOf_0 : decode cX0_tentOf 0 = .ok (.iload_n 1, 1) := by decide +kernel
theorem dX0_tentOf_1 : decode cX0_tentOf 1 = .ok (.invokestatic 76, 3) := by decide +kernel
theorem dX0_tentOf_4 : decode cX0_tentOf 4 = .ok (.ifCond .eq 12, 3) := by decide +kernel
theorem dX0_tentOf_7 : decode cX0_tentOf 7 = .ok (.aload_n 0, 1) := by decide +kernel
theorem dX0_tentOf_8 : decode cX0_tentOf 8 = .ok (.getfield 18, 3) := by decide +kernel
theorem dX0_tentOf_11 : decode cX0_tentOf 11 = .ok (.iload_n 1, 1) := by decide +kernel
theorem dX0_tentOf_12 : decode cX0_tentOf 12 = .ok (.iaload, 1) := by decide +kernel
theorem dX0_tentOf_13 : decode cX0_tentOf 13 = .ok (.goto 4, 3) := by decide +kernel
theorem dX0_tentOf_16 : decode cX0_tentOf 16 = .ok (.iconst 0, 1) := by decide +kernel
theorem dX0_tentOf_17 : decode cX0_tentOf 17 = .ok (.ireturn, 1) := by decide +kernel
theorem dX0_saltOf_0 : decode cX0_saltOf 0 = .ok (.iload_n 1, 1) := by decide +kernel
theorem dX0_saltOf_1 : decode cX0_saltOf 1 = .ok (.invokestatic 76, 3) := by decide +kernel
theorem dX0_saltOf_4 : decode cX0_saltOf 4 = .ok (.ifCond .eq 12, 3) := by decide +kernel
theorem dX0_saltOf_7 : decode cX0_saltOf 7 = .ok (.aload_n 0, 1) := by decide +kernel
theorem dX0_saltOf_8 : decode cX0_saltOf 8 = .ok (.getfield 21, 3) := by decide +kernel
theorem dX0_saltOf_11 : decode cX0_saltOf 11 = .ok (.iload_n 1, 1) := by decide +kernel
theorem dX0_saltOf_12 : decode cX0_saltOf 12 = .ok (.iaload, 1) := by decide +kernel
theorem dX0_saltOf_13 : decode cX0_saltOf 13 = .ok (.goto 4, 3) := by decide +kernel
theorem dX0_saltOf_16 : decode cX0_saltOf 16 = .ok (.iconst 0, 1) := by decide +kernel
theorem dX0_saltOf_17 : decode cX0_saltOf 17 = .ok (.ireturn, 1) := by decide +kernel
theorem dX0_allSalt_0 : decode cX0_allSalt 0 = .ok (.iconst 0, 1) := by decide +kernel
theorem dX0_allSalt_1 : decode cX0_allSalt 1 = .ok (.istore_n 1, 1) := by decide +kernel
theorem dX0_allSalt_2 : decode cX0_allSalt 2 = .ok (.iconst 0, 1) := by decide +kernel
theorem dX0_allSalt_3 : decode cX0_allSalt 3 = .ok (.istore_n 2, 1) := by decide +kernel
theorem dX0_allSalt_4 : decode cX0_allSalt 4 = .ok (.iload_n 2, 1) := by decide +kernel
theorem dX0_allSalt_5 : decode cX0_allSalt 5 = .ok (.bipush 6, 2) := by decide +kernel
theorem dX0_allSalt_7 : decode cX0_allSalt 7 = .ok (.if_icmp .ge 18, 3) := by decide +kernel
theorem dX0_allSalt_10 : decode cX0_allSalt 10 = .ok (.iload_n 1, 1) := by decide +kernel
theorem dX0_allSalt_11 : decode cX0_allSalt 11 = .ok (.aload_n 0, 1) := by decide +kernel
theorem dX0_allSalt_12 : decode cX0_allSalt 12 = .ok (.getfield 21, 3) := by decide +kernel
theorem dX0_allSalt_15 : decode cX0_allSalt 15 = .ok (.iload_n 2, 1) := by decide +kernel
theorem dX0_allSalt_16 : decode cX0_allSalt 16 = .ok (.iaload, 1) := by decide +kernel
theorem dX0_allSalt_17 : decode cX0_allSalt 17 = .ok (.iadd, 1) := by decide +kernel
theorem dX0_allSalt_18 : decode cX0_allSalt 18 = .ok (.istore_n 1, 1) := by decide +kernel
theorem dX0_allSalt_19 : decode cX0_allSalt 19 = .ok (.iinc 2 1, 3) := by decide +kernel
theorem dX0_allSalt_22 : decode cX0_allSalt 22 = .ok (.goto (-18), 3) := by decide +kernel
theorem dX0_allSalt_25 : decode cX0_allSalt 25 = .ok (.iload_n 1, 1) := by decide +kernel
theorem dX0_allSalt_26 : decode cX0_allSalt 26 = .ok (.ireturn, 1) := by decide +kernel
theorem dX0_womansShare_0 : decode cX0_womansShare 0 = .ok (.aload_n 0, 1) := by decide +kernel
theorem dX0_womansShare_1 : decode cX0_womansShare 1 = .ok (.getfield 47, 3) := by decide +kernel
theorem dX0_womansShare_4 : decode cX0_womansShare 4 = .ok (.ireturn, 1) := by decide +kernel
theorem dX0_knownTo_0 : decode cX0_knownTo 0 = .ok (.iload_n 1, 1) := by decide +kernel
theorem dX0_knownTo_1 : decode cX0_knownTo 1 = .ok (.invokestatic 76, 3) := by decide +kernel
theorem dX0_knownTo_4 : decode cX0_knownTo 4 = .ok (.ifCond .eq 12, 3) := by decide +kernel
theorem dX0_knownTo_7 : decode cX0_knownTo 7 = .ok (.aload_n 0, 1) := by decide +kernel
theorem dX0_knownTo_8 : decode cX0_knownTo 8 = .ok (.getfield 24, 3) := by decide +kernel
theorem dX0_knownTo_11 : decode cX0_knownTo 11 = .ok (.iload_n 1, 1) := by decide +kernel
theorem dX0_knownTo_12 : decode cX0_knownTo 12 = .ok (.laload, 1) := by decide +kernel
theorem dX0_knownTo_13 : decode cX0_knownTo 13 = .ok (.goto 4, 3) := by decide +kernel
theorem dX0_knownTo_16 : decode cX0_knownTo 16 = .ok (.lconst 0, 1) := by decide +kernel
theorem dX0_knownTo_17 : decode cX0_knownTo 17 = .ok (.lreturn, 1) := by decide +kernel
theorem dX0_isKnownTo_0 : decode cX0_isKnownTo 0 = .ok (.iload_n 1, 1) := by decide +kernel
theorem dX0_isKnownTo_1 : decode cX0_isKnownTo 1 = .ok (.invokestatic 76, 3) := by decide +kernel
theorem dX0_isKnownTo_4 : decode cX0_isKnownTo 4 = .ok (.ifCond .eq 29, 3) := by decide +kernel
theorem dX0_isKnownTo_7 : decode cX0_isKnownTo 7 = .ok (.iload_n 2, 1) := by decide +kernel
theorem dX0_isKnownTo_8 : decode cX0_isKnownTo 8 = .ok (.invokestatic 50, 3) := by decide +kernel
theorem dX0_isKnownTo_11 : decode cX0_isKnownTo 11 = .ok (.ifCond .eq 22, 3) := by decide +kernel
theorem dX0_isKnownTo_14 : decode cX0_isKnownTo 14 = .ok (.aload_n 0, 1) := by decide +kernel
theorem dX0_isKnownTo_15 : decode cX0_isKnownTo 15 = .ok (.getfield 24, 3) := by decide +kernel
theorem dX0_isKnownTo_18 : decode cX0_isKnownTo 18 = .ok (.iload_n 1, 1) := by decide +kernel
theorem dX0_isKnownTo_19 : decode cX0_isKnownTo 19 = .ok (.laload, 1) := by decide +kernel
theorem dX0_isKnownTo_20 : decode cX0_isKnownTo 20 = .ok (.iload_n 2, 1) := by decide +kernel
theorem dX0_isKnownTo_21 : decode cX0_isKnownTo 21 = .ok (.lushr, 1) := by decide +kernel
theorem dX0_isKnownTo_22 : decode cX0_isKnownTo 22 = .ok (.lconst 1, 1) := by decide +kernel
theorem dX0_isKnownTo_23 : decode cX0_isKnownTo 23 = .ok (.land, 1) := by decide +kernel
theorem dX0_isKnownTo_24 : decode cX0_isKnownTo 24 = .ok (.lconst 1, 1) := by decide +kernel
theorem dX0_isKnownTo_25 : decode cX0_isKnownTo 25 = .ok (.lcmp, 1) := by decide +kernel
theorem dX0_isKnownTo_26 : decode cX0_isKnownTo 26 = .ok (.ifCond .ne 7, 3) := by decide +kernel
theorem dX0_isKnownTo_29 : decode cX0_isKnownTo 29 = .ok (.iconst 1, 1) := by decide +kernel
theorem dX0_isKnownTo_30 : decode cX0_isKnownTo 30 = .ok (.goto 4, 3) := by decide +kernel
theorem dX0_isKnownTo_33 : decode cX0_isKnownTo 33 = .ok (.iconst 0, 1) := by decide +kernel
theorem dX0_isKnownTo_34 : decode cX0_isKnownTo 34 = .ok (.ireturn, 1) := by decide +kernel
theorem dX0_setKnown_0 : decode cX0_setKnown 0 = .ok (.iload_n 1, 1) := by decide +kernel
theorem dX0_setKnown_1 : decode cX0_setKnown 1 = .ok (.invokestatic 76, 3) := by decide +kernel
theorem dX0_setKnown_4 : decode cX0_setKnown 4 = .ok (.ifCond .eq 50, 3) := by decide +kernel
theorem dX0_setKnown_7 : decode cX0_setKnown 7 = .ok (.iload_n 2, 1) := by decide +kernel
theorem dX0_setKnown_8 : decode cX0_setKnown 8 = .ok (.invokestatic 50, 3) := by decide +kernel
theorem dX0_setKnown_11 : decode cX0_setKnown 11 = .ok (.ifCond .eq 43, 3) := by decide +kernel
theorem dX0_setKnown_14 : decode cX0_setKnown 14 = .ok (.lconst 1, 1) := by decide +kernel
theorem dX0_setKnown_15 : decode cX0_setKnown 15 = .ok (.iload_n 2, 1) := by decide +kernel
theorem dX0_setKnown_16 : decode cX0_setKnown 16 = .ok (.lshl, 1) := by decide +kernel
theorem dX0_setKnown_17 : decode cX0_setKnown 17 = .ok (.lstore 4, 2) := by decide +kernel
theorem dX0_setKnown_19 : decode cX0_setKnown 19 = .ok (.aload_n 0, 1) := by decide +kernel
theorem dX0_setKnown_20 : decode cX0_setKnown 20 = .ok (.getfield 24, 3) := by decide +kernel
theorem dX0_setKnown_23 : decode cX0_setKnown 23 = .ok (.iload_n 1, 1) := by decide +kernel
theorem dX0_setKnown_24 : decode cX0_setKnown 24 = .ok (.iload_n 3, 1) := by decide +kernel
theorem dX0_setKnown_25 : decode cX0_setKnown 25 = .ok (.ifCond .eq 15, 3) := by decide +kernel
theorem dX0_setKnown_28 : decode cX0_setKnown 28 = .ok (.aload_n 0, 1) := by decide +kernel
theorem dX0_setKnown_29 : decode cX0_setKnown 29 = .ok (.getfield 24, 3) := by decide +kernel
theorem dX0_setKnown_32 : decode cX0_setKnown 32 = .ok (.iload_n 1, 1) := by decide +kernel
theorem dX0_setKnown_33 : decode cX0_setKnown 33 = .ok (.laload, 1) := by decide +kernel
theorem dX0_setKnown_34 : decode cX0_setKnown 34 = .ok (.lload 4, 2) := by decide +kernel
theorem dX0_setKnown_36 : decode cX0_setKnown 36 = .ok (.lor, 1) := by decide +kernel
theorem dX0_setKnown_37 : decode cX0_setKnown 37 = .ok (.goto 16, 3) := by decide +kernel
theorem dX0_setKnown_40 : decode cX0_setKnown 40 = .ok (.aload_n 0, 1) := by decide +kernel
theorem dX0_setKnown_41 : decode cX0_setKnown 41 = .ok (.getfield 24, 3) := by decide +kernel
theorem dX0_setKnown_44 : decode cX0_setKnown 44 = .ok (.iload_n 1, 1) := by decide +kernel
theorem dX0_setKnown_45 : decode cX0_setKnown 45 = .ok (.laload, 1) := by decide +kernel
theorem dX0_setKnown_46 : decode cX0_setKnown 46 = .ok (.lload 4, 2) := by decide +kernel
theorem dX0_setKnown_48 : decode cX0_setKnown 48 = .ok (.ldc2_w 83, 3) := by decide +kernel
theorem dX0_setKnown_51 : decode cX0_setKnown 51 = .ok (.lxor, 1) := by decide +kernel
theorem dX0_setKnown_52 : decode cX0_setKnown 52 = .ok (.land, 1) := by decide +kernel
theorem dX0_setKnown_53 : decode cX0_setKnown 53 = .ok (.lastore, 1) := by decide +kernel
theorem dX0_setKnown_54 : decode cX0_setKnown 54 = .ok (.return_, 1) := by decide +kernel
theorem dX0_hasCold_0 : decode cX0_hasCold 0 = .ok (.aload_n 0, 1) := by decide +kernel
theorem dX0_hasCold_1 : decode cX0_hasCold 1 = .ok (.getfield 41, 3) := by decide +kernel
theorem dX0_hasCold_4 : decode cX0_hasCold 4 = .ok (.iload_n 1, 1) := by decide +kernel
theorem dX0_hasCold_5 : decode cX0_hasCold 5 = .ok (.invokestatic 72, 3) := by decide +kernel
theorem dX0_hasCold_8 : decode cX0_hasCold 8 = .ok (.ireturn, 1) := by decide +kernel
theorem dX0_isWhistling_0 : decode cX0_isWhistling 0 = .ok (.aload_n 0, 1) := by decide +kernel
theorem dX0_isWhistling_1 : decode cX0_isWhistling 1 = .ok (.getfield 44, 3) := by decide +kernel
theorem dX0_isWhistling_4 : decode cX0_isWhistling 4 = .ok (.iload_n 1, 1) := by decide +kernel
theorem dX0_isWhistling_5 : decode cX0_isWhistling 5 = .ok (.invokestatic 72, 3) := by decide +kernel
theorem dX0_isWhistling_8 : decode cX0_isWhistling 8 = .ok (.ireturn, 1) := by decide +kernel
theorem dX0_snoreOf_0 : decode cX0_snoreOf 0 = .ok (.aload_n 0, 1) := by decide +kernel
theorem dX0_snoreOf_1 : decode cX0_snoreOf 1 = .ok (.iload_n 1, 1) := by decide +kernel
theorem dX0_snoreOf_2 : decode cX0_snoreOf 2 = .ok (.aload_n 0, 1) := by decide +kernel
theorem dX0_snoreOf_3 : decode cX0_snoreOf 3 = .ok (.iload_n 1, 1) := by decide +kernel
theorem dX0_snoreOf_4 : decode cX0_snoreOf 4 = .ok (.invokevirtual 85, 3) := by decide +kernel
theorem dX0_snoreOf_7 : decode cX0_snoreOf 7 = .ok (.invokevirtual 88, 3) := by decide +kernel
theorem dX0_snoreOf_10 : decode cX0_snoreOf 10 = .ok (.ireturn, 1) := by decide +kernel
theorem dX0_snoreIf_0 : decode cX0_snoreIf 0 = .ok (.aload_n 0, 1) := by decide +kernel
theorem dX0_snoreIf_1 : decode cX0_snoreIf 1 = .ok (.aload_n 0, 1) := by decide +kernel
theorem dX0_snoreIf_2 : decode cX0_snoreIf 2 = .ok (.iload_n 1, 1) := by decide +kernel
theorem dX0_snoreIf_3 : decode cX0_snoreIf 3 = .ok (.invokevirtual 92, 3) := by decide +kernel
theorem dX0_snoreIf_6 : decode cX0_snoreIf 6 = .ok (.invokevirtual 95, 3) := by decide +kernel
theorem dX0_snoreIf_9 : decode cX0_snoreIf 9 = .ok (.istore_n 3, 1) := by decide +kernel
theorem dX0_snoreIf_10 : decode cX0_snoreIf 10 = .ok (.iload_n 2, 1) := by decide +kernel
theorem dX0_snoreIf_11 : decode cX0_snoreIf 11 = .ok (.ifCond .eq 6, 3) := by decide +kernel
theorem dX0_snoreIf_14 : decode cX0_snoreIf 14 = .ok (.iinc 3 3, 3) := by decide +kernel
theorem dX0_snoreIf_17 : decode cX0_snoreIf 17 = .ok (.aload_n 0, 1) := by decide +kernel
theorem dX0_snoreIf_18 : decode cX0_snoreIf 18 = .ok (.iload_n 1, 1) := by decide +kernel
theorem dX0_snoreIf_19 : decode cX0_snoreIf 19 = .ok (.invokevirtual 98, 3) := by decide +kernel
theorem dX0_snoreIf_22 : decode cX0_snoreIf 22 = .ok (.ifCond .eq 7, 3) := by decide +kernel
theorem dX0_snoreIf_25 : decode cX0_snoreIf 25 = .ok (.iload_n 3, 1) := by decide +kernel
theorem dX0_snoreIf_26 : decode cX0_snoreIf 26 = .ok (.iconst 2, 1) := by decide +kernel
theorem dX0_snoreIf_27 : decode cX0_snoreIf 27 = .ok (.idiv, 1) := by decide +kernel
theorem dX0_snoreIf_28 : decode cX0_snoreIf 28 = .ok (.istore_n 3, 1) := by decide +kernel
theorem dX0_snoreIf_29 : decode cX0_snoreIf 29 = .ok (.iload_n 3, 1) := by decide +kernel
theorem dX0_snoreIf_30 : decode cX0_snoreIf 30 = .ok (.bipush 99, 2) := by decide +kernel
theorem dX0_snoreIf_32 : decode cX0_snoreIf 32 = .ok (.invokestatic 101, 3) := by decide +kernel
theorem dX0_snoreIf_35 : decode cX0_snoreIf 35 = .ok (.ireturn, 1) := by decide +kernel
theorem dX0_listen_0 : decode cX0_listen 0 = .ok (.iconst 0, 1) := by decide +kernel
theorem dX0_listen_1 : decode cX0_listen 1 = .ok (.istore_n 1, 1) := by decide +kernel
theorem dX0_listen_2 : decode cX0_listen 2 = .ok (.iload_n 1, 1) := by decide +kernel
theorem dX0_listen_3 : decode cX0_listen 3 = .ok (.bipush 6, 2) := by decide +kernel
theorem dX0_listen_5 : decode cX0_listen 5 = .ok (.if_icmp .ge 20, 3) := by decide +kernel
theorem dX0_listen_8 : decode cX0_listen 8 = .ok (.aload_n 0, 1) := by decide +kernel
theorem dX0_listen_9 : decode cX0_listen 9 = .ok (.getfield 28, 3) := by decide +kernel
theorem dX0_listen_12 : decode cX0_listen 12 = .ok (.iload_n 1, 1) := by decide +kernel
theorem dX0_listen_13 : decode cX0_listen 13 = .ok (.aload_n 0, 1) := by decide +kernel
theorem dX0_listen_14 : decode cX0_listen 14 = .ok (.iload_n 1, 1) := by decide +kernel
theorem dX0_listen_15 : decode cX0_listen 15 = .ok (.invokevirtual 107, 3) := by decide +kernel
theorem dX0_listen_18 : decode cX0_listen 18 = .ok (.iastore, 1) := by decide +kernel
theorem dX0_listen_19 : decode cX0_listen 19 = .ok (.iinc 1 1, 3) := by decide +kernel
theorem dX0_listen_22 : decode cX0_listen 22 = .ok (.goto (-20), 3) := by decide +kernel
theorem dX0_listen_25 : decode cX0_listen 25 = .ok (.return_, 1) := by decide +kernel
theorem dX0_heardAt_0 : decode cX0_heardAt 0 = .ok (.aload_n 0, 1) := by decide +kernel
theorem dX0_heardAt_1 : decode cX0_heardAt 1 = .ok (.iconst (-1), 1) := by decide +kernel
theorem dX0_heardAt_2 : decode cX0_heardAt 2 = .ok (.iload_n 1, 1) := by decide +kernel
theorem dX0_heardAt_3 : decode cX0_heardAt 3 = .ok (.invokevirtual 110, 3) := by decide +kernel
theorem dX0_heardAt_6 : decode cX0_heardAt 6 = .ok (.ireturn, 1) := by decide +kernel
theorem dX0_heardWithout_0 : decode cX0_heardWithout 0 = .ok (.iconst 0, 1) := by decide +kernel
theorem dX0_heardWithout_1 : decode cX0_heardWithout 1 = .ok (.istore_n 3, 1) := by decide +kernel
theorem dX0_heardWithout_2 : decode cX0_heardWithout 2 = .ok (.iconst 0, 1) := by decide +kernel
theorem dX0_heardWithout_3 : decode cX0_heardWithout 3 = .ok (.istore 4, 2) := by decide +kernel
theorem dX0_heardWithout_5 : decode cX0_heardWithout 5 = .ok (.iload 4, 2) := by decide +kernel
theorem dX0_heardWithout_7 : decode cX0_heardWithout 7 = .ok (.bipush 6, 2) := by decide +kernel
theorem dX0_heardWithout_9 : decode cX0_heardWithout 9 = .ok (.if_icmp .ge 50, 3) := by decide +kernel
theorem dX0_heardWithout_12 : decode cX0_heardWithout 12 = .ok (.iload 4, 2) := by decide +kernel
theorem dX0_heardWithout_14 : decode cX0_heardWithout 14 = .ok (.iload_n 1, 1) := by decide +kernel
theorem dX0_heardWithout_15 : decode cX0_heardWithout 15 = .ok (.if_icmp .eq 38, 3) := by decide +kernel
theorem dX0_heardWithout_18 : decode cX0_heardWithout 18 = .ok (.aload_n 0, 1) := by decide +kernel
theorem dX0_heardWithout_19 : decode cX0_heardWithout 19 = .ok (.iload 4, 2) := by decide +kernel
theorem dX0_heardWithout_21 : decode cX0_heardWithout 21 = .ok (.invokevirtual 113, 3) := by decide +kernel
theorem dX0_heardWithout_24 : decode cX0_heardWithout 24 = .ok (.ifCond .eq 29, 3) := by decide +kernel
theorem dX0_heardWithout_27 : decode cX0_heardWithout 27 = .ok (.iload_n 3, 1) := by decide +kernel
theorem dX0_heardWithout_28 : decode cX0_heardWithout 28 = .ok (.iconst 0, 1) := by decide +kernel
theorem dX0_heardWithout_29 : decode cX0_heardWithout 29 = .ok (.aload_n 0, 1) := by decide +kernel
theorem dX0_heardWithout_30 : decode cX0_heardWithout 30 = .ok (.getfield 28, 3) := by decide +kernel
theorem dX0_heardWithout_33 : decode cX0_heardWithout 33 = .ok (.iload 4, 2) := by decide +kernel
theorem dX0_heardWithout_35 : decode cX0_heardWithout 35 = .ok (.iaload, 1) := by decide +kernel
theorem dX0_heardWithout_36 : decode cX0_heardWithout 36 = .ok (.aload_n 0, 1) := by decide +kernel
theorem dX0_heardWithout_37 : decode cX0_heardWithout 37 = .ok (.getfield 18, 3) := by decide +kernel
theorem dX0_heardWithout_40 : decode cX0_heardWithout 40 = .ok (.iload 4, 2) := by decide +kernel
theorem dX0_heardWithout_42 : decode cX0_heardWithout 42 = .ok (.iaload, 1) := by decide +kernel
theorem dX0_heardWithout_43 : decode cX0_heardWithout 43 = .ok (.iload_n 2, 1) := by decide +kernel
theorem dX0_heardWithout_44 : decode cX0_heardWithout 44 = .ok (.invokestatic 116, 3) := by decide +kernel
theorem dX0_heardWithout_47 : decode cX0_heardWithout 47 = .ok (.isub, 1) := by decide +kernel
theorem dX0_heardWithout_48 : decode cX0_heardWithout 48 = .ok (.invokestatic 119, 3) := by decide +kernel
theorem dX0_heardWithout_51 : decode cX0_heardWithout 51 = .ok (.iadd, 1) := by decide +kernel
theorem dX0_heardWithout_52 : decode cX0_heardWithout 52 = .ok (.istore_n 3, 1) := by decide +kernel
theorem dX0_heardWithout_53 : decode cX0_heardWithout 53 = .ok (.iinc 4 1, 3) := by decide +kernel
theorem dX0_heardWithout_56 : decode cX0_heardWithout 56 = .ok (.goto (-51), 3) := by decide +kernel
theorem dX0_heardWithout_59 : decode cX0_heardWithout 59 = .ok (.iload_n 3, 1) := by decide +kernel
theorem dX0_heardWithout_60 : decode cX0_heardWithout 60 = .ok (.ireturn, 1) := by decide +kernel
theorem dX0_heardByOthers_0 : decode cX0_heardByOthers 0 = .ok (.iload_n 1, 1) := by decide +kernel
theorem dX0_heardByOthers_1 : decode cX0_heardByOthers 1 = .ok (.invokestatic 76, 3) := by decide +kernel
theorem dX0_heardByOthers_4 : decode cX0_heardByOthers 4 = .ok (.ifCond .eq 12, 3) := by decide +kernel
theorem dX0_heardByOthers_7 : decode cX0_heardByOthers 7 = .ok (.aload_n 0, 1) := by decide +kernel
theorem dX0_heardByOthers_8 : decode cX0_heardByOthers 8 = .ok (.getfield 28, 3) := by decide +kernel
theorem dX0_heardByOthers_11 : decode cX0_heardByOthers 11 = .ok (.iload_n 1, 1) := by decide +kernel
theorem dX0_heardByOthers_12 : decode cX0_heardByOthers 12 = .ok (.iaload, 1) := by decide +kernel
theorem dX0_heardByOthers_13 : decode cX0_heardByOthers 13 = .ok (.goto 4, 3) := by decide +kernel
theorem dX0_heardByOthers_16 : decode cX0_heardByOthers 16 = .ok (.iconst 0, 1) := by decide +kernel
theorem dX0_heardByOthers_17 : decode cX0_heardByOthers 17 = .ok (.istore_n 3, 1) := by decide +kernel
theorem dX0_heardByOthers_18 : decode cX0_heardByOthers 18 = .ok (.iconst 0, 1) := by decide +kernel
theorem dX0_heardByOthers_19 : decode cX0_heardByOthers 19 = .ok (.istore 4, 2) := by decide +kernel
theorem dX0_heardByOthers_21 : decode cX0_heardByOthers 21 = .ok (.iconst 0, 1) := by decide +kernel
theorem dX0_heardByOthers_22 : decode cX0_heardByOthers 22 = .ok (.istore 5, 2) := by decide +kernel
theorem dX0_heardByOthers_24 : decode cX0_heardByOthers 24 = .ok (.iload 5, 2) := by decide +kernel
theorem dX0_heardByOthers_26 : decode cX0_heardByOthers 26 = .ok (.bipush 6, 2) := by decide +kernel
theorem dX0_heardByOthers_28 : decode cX0_heardByOthers 28 = .ok (.if_icmp .ge 46, 3) := by decide +kernel
theorem dX0_heardByOthers_31 : decode cX0_heardByOthers 31 = .ok (.iload 5, 2) := by decide +kernel
theorem dX0_heardByOthers_33 : decode cX0_heardByOthers 33 = .ok (.iload_n 1, 1) := by decide +kernel
theorem dX0_heardByOthers_34 : decode cX0_heardByOthers 34 = .ok (.if_icmp .eq 34, 3) := by decide +kernel
theorem dX0_heardByOthers_37 : decode cX0_heardByOthers 37 = .ok (.aload_n 0, 1) := by decide +kernel
theorem dX0_heardByOthers_38 : decode cX0_heardByOthers 38 = .ok (.iload 5, 2) := by decide +kernel
theorem dX0_heardByOthers_40 : decode cX0_heardByOthers 40 = .ok (.invokevirtual 113, 3) := by decide +kernel
theorem dX0_heardByOthers_43 : decode cX0_heardByOthers 43 = .ok (.ifCond .eq 25, 3) := by decide +kernel
theorem dX0_heardByOthers_46 : decode cX0_heardByOthers 46 = .ok (.iload 4, 2) := by decide +kernel
theorem dX0_heardByOthers_48 : decode cX0_heardByOthers 48 = .ok (.iconst 0, 1) := by decide +kernel
theorem dX0_heardByOthers_49 : decode cX0_heardByOthers 49 = .ok (.iload_n 3, 1) := by decide +kernel
theorem dX0_heardByOthers_50 : decode cX0_heardByOthers 50 = .ok (.iload_n 2, 1) := by decide +kernel
theorem dX0_heardByOthers_51 : decode cX0_heardByOthers 51 = .ok (.aload_n 0, 1) := by decide +kernel
theorem dX0_heardByOthers_52 : decode cX0_heardByOthers 52 = .ok (.getfield 18, 3) := by decide +kernel
theorem dX0_heardByOthers_55 : decode cX0_heardByOthers 55 = .ok (.iload 5, 2) := by decide +kernel
theorem dX0_heardByOthers_57 : decode cX0_heardByOthers 57 = .ok (.iaload, 1) := by decide +kernel
theorem dX0_heardByOthers_58 : decode cX0_heardByOthers 58 = .ok (.invokestatic 116, 3) := by decide +kernel
theorem dX0_heardByOthers_61 : decode cX0_heardByOthers 61 = .ok (.isub, 1) := by decide +kernel
theorem dX0_heardByOthers_62 : decode cX0_heardByOthers 62 = .ok (.invokestatic 119, 3) := by decide +kernel
theorem dX0_heardByOthers_65 : decode cX0_heardByOthers 65 = .ok (.iadd, 1) := by decide +kernel
theorem dX0_heardByOthers_66 : decode cX0_heardByOthers 66 = .ok (.istore 4, 2) := by decide +kernel
theorem dX0_heardByOthers_68 : decode cX0_heardByOthers 68 = .ok (.iinc 5 1, 3) := by decide +kernel
theorem dX0_heardByOthers_71 : decode cX0_heardByOthers 71 = .ok (.goto (-47), 3) := by decide +kernel
theorem dX0_heardByOthers_74 : decode cX0_heardByOthers 74 = .ok (.iload 4, 2) := by decide +kernel
theorem dX0_heardByOthers_76 : decode cX0_heardByOthers 76 = .ok (.ireturn, 1) := by decide +kernel
theorem dX0_twiceShare_0 : decode cX0_twiceShare 0 = .ok (.iload_n 1, 1) := by decide +kernel
theorem dX0_twiceShare_1 : decode cX0_twiceShare 1 = .ok (.iload_n 2, 1) := by decide +kernel
theorem dX0_twiceShare_2 : decode cX0_twiceShare 2 = .ok (.if_icmp .ne 15, 3) := by decide +kernel
theorem dX0_twiceShare_5 : decode cX0_twiceShare 5 = .ok (.iconst 2, 1) := by decide +kernel
theorem dX0_twiceShare_6 : decode cX0_twiceShare 6 = .ok (.aload_n 0, 1) := by decide +kernel
theorem dX0_twiceShare_7 : decode cX0_twiceShare 7 = .ok (.aload_n 0, 1) := by decide +kernel
theorem dX0_twiceShare_8 : decode cX0_twiceShare 8 = .ok (.iload_n 1, 1) := by decide +kernel
theorem dX0_twiceShare_9 : decode cX0_twiceShare 9 = .ok (.invokevirtual 92, 3) := by decide +kernel
theorem dX0_twiceShare_12 : decode cX0_twiceShare 12 = .ok (.invokevirtual 95, 3) := by decide +kernel
theorem dX0_twiceShare_15 : decode cX0_twiceShare 15 = .ok (.imul, 1) := by decide +kernel
theorem dX0_twiceShare_16 : decode cX0_twiceShare 16 = .ok (.ireturn, 1) := by decide +kernel
theorem dX0_twiceShare_17 : decode cX0_twiceShare 17 = .ok (.aload_n 0, 1) := by decide +kernel
theorem dX0_twiceShare_18 : decode cX0_twiceShare 18 = .ok (.aload_n 0, 1) := by decide +kernel
theorem dX0_twiceShare_19 : decode cX0_twiceShare 19 = .ok (.iload_n 1, 1) := by decide +kernel
theorem dX0_twiceShare_20 : decode cX0_twiceShare 20 = .ok (.invokevirtual 92, 3) := by decide +kernel
theorem dX0_twiceShare_23 : decode cX0_twiceShare 23 = .ok (.aload_n 0, 1) := by decide +kernel
theorem dX0_twiceShare_24 : decode cX0_twiceShare 24 = .ok (.iload_n 2, 1) := by decide +kernel
theorem dX0_twiceShare_25 : decode cX0_twiceShare 25 = .ok (.invokevirtual 92, 3) := by decide +kernel
theorem dX0_twiceShare_28 : decode cX0_twiceShare 28 = .ok (.lor, 1) := by decide +kernel
theorem dX0_twiceShare_29 : decode cX0_twiceShare 29 = .ok (.invokevirtual 95, 3) := by decide +kernel
theorem dX0_twiceShare_32 : decode cX0_twiceShare 32 = .ok (.ireturn, 1) := by decide +kernel
theorem dX0_reasonAgainst_0 : decode cX0_reasonAgainst 0 = .ok (.iload_n 2, 1) := by decide +kernel
theorem dX0_reasonAgainst_1 : decode cX0_reasonAgainst 1 = .ok (.bipush 6, 2) := by decide +kernel
theorem dX0_reasonAgainst_3 : decode cX0_reasonAgainst 3 = .ok (.if_icmp .ne 5, 3) := by decide +kernel
theorem dX0_reasonAgainst_6 : decode cX0_reasonAgainst 6 = .ok (.iconst 0, 1) := by decide +kernel
theorem dX0_reasonAgainst_7 : decode cX0_reasonAgainst 7 = .ok (.ireturn, 1) := by decide +kernel
theorem dX0_reasonAgainst_8 : decode cX0_reasonAgainst 8 = .ok (.aload_n 0, 1) := by decide +kernel
theorem dX0_reasonAgainst_9 : decode cX0_reasonAgainst 9 = .ok (.iload_n 1, 1) := by decide +kernel
theorem dX0_reasonAgainst_10 : decode cX0_reasonAgainst 10 = .ok (.invokevirtual 113, 3) := by decide +kernel
theorem dX0_reasonAgainst_13 : decode cX0_reasonAgainst 13 = .ok (.ifCond .ne 5, 3) := by decide +kernel
theorem dX0_reasonAgainst_16 : decode cX0_reasonAgainst 16 = .ok (.iconst 1, 1) := by decide +kernel
theorem dX0_reasonAgainst_17 : decode cX0_reasonAgainst 17 = .ok (.ireturn, 1) := by decide +kernel
theorem dX0_reasonAgainst_18 : decode cX0_reasonAgainst 18 = .ok (.aload_n 0, 1) := by decide +kernel
theorem dX0_reasonAgainst_19 : decode cX0_reasonAgainst 19 = .ok (.iload_n 1, 1) := by decide +kernel
theorem dX0_reasonAgainst_20 : decode cX0_reasonAgainst 20 = .ok (.invokevirtual 122, 3) := by decide +kernel
theorem dX0_reasonAgainst_23 : decode cX0_reasonAgainst 23 = .ok (.istore_n 3, 1) := by decide +kernel
theorem dX0_reasonAgainst_24 : decode cX0_reasonAgainst 24 = .ok (.iload_n 3, 1) := by decide +kernel
theorem dX0_reasonAgainst_25 : decode cX0_reasonAgainst 25 = .ok (.iload_n 2, 1) := by decide +kernel
theorem dX0_reasonAgainst_26 : decode cX0_reasonAgainst 26 = .ok (.invokestatic 125, 3) := by decide +kernel
theorem dX0_reasonAgainst_29 : decode cX0_reasonAgainst 29 = .ok (.bipush (-6), 2) := by decide +kernel
theorem dX0_reasonAgainst_31 : decode cX0_reasonAgainst 31 = .ok (.if_icmp .ne 5, 3) := by decide +kernel
theorem dX0_reasonAgainst_34 : decode cX0_reasonAgainst 34 = .ok (.iconst 2, 1) := by decide +kernel
theorem dX0_reasonAgainst_35 : decode cX0_reasonAgainst 35 = .ok (.ireturn, 1) := by decide +kernel
theorem dX0_reasonAgainst_36 : decode cX0_reasonAgainst 36 = .ok (.iload_n 2, 1) := by decide +kernel
theorem dX0_reasonAgainst_37 : decode cX0_reasonAgainst 37 = .ok (.iconst 4, 1) := by decide +kernel
theorem dX0_reasonAgainst_38 : decode cX0_reasonAgainst 38 = .ok (.if_icmp .ne 14, 3) := by decide +kernel
theorem dX0_reasonAgainst_41 : decode cX0_reasonAgainst 41 = .ok (.aload_n 0, 1) := by decide +kernel
theorem dX0_reasonAgainst_42 : decode cX0_reasonAgainst 42 = .ok (.iload_n 1, 1) := by decide +kernel
theorem dX0_reasonAgainst_43 : decode cX0_reasonAgainst 43 = .ok (.iload_n 3, 1) := by decide +kernel
theorem dX0_reasonAgainst_44 : decode cX0_reasonAgainst 44 = .ok (.invokevirtual 128, 3) := by decide +kernel
theorem dX0_reasonAgainst_47 : decode cX0_reasonAgainst 47 = .ok (.ifCond .eq 5, 3) := by decide +kernel
theorem dX0_reasonAgainst_50 : decode cX0_reasonAgainst 50 = .ok (.iconst 3, 1) := by decide +kernel
theorem dX0_reasonAgainst_51 : decode cX0_reasonAgainst 51 = .ok (.ireturn, 1) := by decide +kernel
theorem dX0_reasonAgainst_52 : decode cX0_reasonAgainst 52 = .ok (.iload_n 2, 1) := by decide +kernel
theorem dX0_reasonAgainst_53 : decode cX0_reasonAgainst 53 = .ok (.iconst 5, 1) := by decide +kernel
theorem dX0_reasonAgainst_54 : decode cX0_reasonAgainst 54 = .ok (.if_icmp .ne 14, 3) := by decide +kernel
theorem dX0_reasonAgainst_57 : decode cX0_reasonAgainst 57 = .ok (.aload_n 0, 1) := by decide +kernel
theorem dX0_reasonAgainst_58 : decode cX0_reasonAgainst 58 = .ok (.iload_n 3, 1) := by decide +kernel
theorem dX0_reasonAgainst_59 : decode cX0_reasonAgainst 59 = .ok (.invokevirtual 131, 3) := by decide +kernel
theorem dX0_reasonAgainst_62 : decode cX0_reasonAgainst 62 = .ok (.iconst (-1), 1) := by decide +kernel
theorem dX0_reasonAgainst_63 : decode cX0_reasonAgainst 63 = .ok (.if_icmp .eq 5, 3) := by decide +kernel
theorem dX0_reasonAgainst_66 : decode cX0_reasonAgainst 66 = .ok (.iconst 4, 1) := by decide +kernel
theorem dX0_reasonAgainst_67 : decode cX0_reasonAgainst 67 = .ok (.ireturn, 1) := by decide +kernel
theorem dX0_reasonAgainst_68 : decode cX0_reasonAgainst 68 = .ok (.iconst 0, 1) := by decide +kernel
theorem dX0_reasonAgainst_69 : decode cX0_reasonAgainst 69 = .ok (.ireturn, 1) := by decide +kernel
theorem dX0_perform_0 : decode cX0_perform 0 = .ok (.iload_n 2, 1) := by decide +kernel
theorem dX0_perform_1 : decode cX0_perform 1 = .ok (.bipush 6, 2) := by decide +kernel
theorem dX0_perform_3 : decode cX0_perform 3 = .ok (.if_icmp .ne 8, 3) := by decide +kernel
theorem dX0_perform_6 : decode cX0_perform 6 = .ok (.aload_n 0, 1) := by decide +kernel
theorem dX0_perform_7 : decode cX0_perform 7 = .ok (.invokevirtual 134, 3) := by decide +kernel
theorem dX0_perform_10 : decode cX0_perform 10 = .ok (.return_, 1) := by decide +kernel
theorem dX0_perform_11 : decode cX0_perform 11 = .ok (.iload_n 1, 1) := by decide +kernel
theorem dX0_perform_12 : decode cX0_perform 12 = .ok (.invokestatic 76, 3) := by decide +kernel
theorem dX0_perform_15 : decode cX0_perform 15 = .ok (.ifCond .ne 4, 3) := by decide +kernel
theorem dX0_perform_18 : decode cX0_perform 18 = .ok (.return_, 1) := by decide +kernel
theorem dX0_perform_19 : decode cX0_perform 19 = .ok (.aload_n 0, 1) := by decide +kernel
theorem dX0_perform_20 : decode cX0_perform 20 = .ok (.getfield 18, 3) := by decide +kernel
theorem dX0_perform_23 : decode cX0_perform 23 = .ok (.iload_n 1, 1) := by decide +kernel
theorem dX0_perform_24 : decode cX0_perform 24 = .ok (.aload_n 0, 1) := by decide +kernel
theorem dX0_perform_25 : decode cX0_perform 25 = .ok (.getfield 18, 3) := by decide +kernel
theorem dX0_perform_28 : decode cX0_perform 28 = .ok (.iload_n 1, 1) := by decide +kernel
theorem dX0_perform_29 : decode cX0_perform 29 = .ok (.iaload, 1) := by decide +kernel
theorem dX0_perform_30 : decode cX0_perform 30 = .ok (.iload_n 2, 1) := by decide +kernel
theorem dX0_perform_31 : decode cX0_perform 31 = .ok (.invokestatic 125, 3) := by decide +kernel
theorem dX0_perform_34 : decode cX0_perform 34 = .ok (.iastore, 1) := by decide +kernel
theorem dX0_perform_35 : decode cX0_perform 35 = .ok (.iload_n 2, 1) := by decide +kernel
theorem dX0_perform_36 : decode cX0_perform 36 = .ok (.tableswitch 95 4 8 #[36, 51, 95, 65, 80], 36) := by decide +kernel
theorem dX0_perform_72 : decode cX0_perform 72 = .ok (.aload_n 0, 1) := by decide +kernel
theorem dX0_perform_73 : decode cX0_perform 73 = .ok (.iload_n 1, 1) := by decide +kernel
theorem dX0_perform_74 : decode cX0_perform 74 = .ok (.aload_n 0, 1) := by decide +kernel
theorem dX0_perform_75 : decode cX0_perform 75 = .ok (.getfield 18, 3) := by decide +kernel
theorem dX0_perform_78 : decode cX0_perform 78 = .ok (.iload_n 1, 1) := by decide +kernel
theorem dX0_perform_79 : decode cX0_perform 79 = .ok (.iaload, 1) := by decide +kernel
theorem dX0_perform_80 : decode cX0_perform 80 = .ok (.iconst 1, 1) := by decide +kernel
theorem dX0_perform_81 : decode cX0_perform 81 = .ok (.invokevirtual 137, 3) := by decide +kernel
theorem dX0_perform_84 : decode cX0_perform 84 = .ok (.goto 47, 3) := by decide +kernel
theorem dX0_perform_87 : decode cX0_perform 87 = .ok (.aload_n 0, 1) := by decide +kernel
theorem dX0_perform_88 : decode cX0_perform 88 = .ok (.aload_n 0, 1) := by decide +kernel
theorem dX0_perform_89 : decode cX0_perform 89 = .ok (.getfield 18, 3) := by decide +kernel
theorem dX0_perform_92 : decode cX0_perform 92 = .ok (.iload_n 1, 1) := by decide +kernel
theorem dX0_perform_93 : decode cX0_perform 93 = .ok (.iaload, 1) := by decide +kernel
theorem dX0_perform_94 : decode cX0_perform 94 = .ok (.iload_n 1, 1) := by decide +kernel
theorem dX0_perform_95 : decode cX0_perform 95 = .ok (.invokevirtual 141, 3) := by decide +kernel
theorem dX0_perform_98 : decode cX0_perform 98 = .ok (.goto 33, 3) := by decide +kernel
theorem dX0_perform_101 : decode cX0_perform 101 = .ok (.aload_n 0, 1) := by decide +kernel
theorem dX0_perform_102 : decode cX0_perform 102 = .ok (.dup, 1) := by decide +kernel
theorem dX0_perform_103 : decode cX0_perform 103 = .ok (.getfield 41, 3) := by decide +kernel
theorem dX0_perform_106 : decode cX0_perform 106 = .ok (.iconst 1, 1) := by decide +kernel
theorem dX0_perform_107 : decode cX0_perform 107 = .ok (.iload_n 1, 1) := by decide +kernel
theorem dX0_perform_108 : decode cX0_perform 108 = .ok (.ishl, 1) := by decide +kernel
theorem dX0_perform_109 : decode cX0_perform 109 = .ok (.ixor, 1) := by decide +kernel
theorem dX0_perform_110 : decode cX0_perform 110 = .ok (.putfield 41, 3) := by decide +kernel
theorem dX0_perform_113 : decode cX0_perform 113 = .ok (.goto 18, 3) := by decide +kernel
theorem dX0_perform_116 : decode cX0_perform 116 = .ok (.aload_n 0, 1) := by decide +kernel
theorem dX0_perform_117 : decode cX0_perform 117 = .ok (.dup, 1) := by decide +kernel
theorem dX0_perform_118 : decode cX0_perform 118 = .ok (.getfield 44, 3) := by decide +kernel
theorem dX0_perform_121 : decode cX0_perform 121 = .ok (.iconst 1, 1) := by decide +kernel
theorem dX0_perform_122 : decode cX0_perform 122 = .ok (.iload_n 1, 1) := by decide +kernel
theorem dX0_perform_123 : decode cX0_perform 123 = .ok (.ishl, 1) := by decide +kernel
theorem dX0_perform_124 : decode cX0_perform 124 = .ok (.ixor, 1) := by decide +kernel
theorem dX0_perform_125 : decode cX0_perform 125 = .ok (.putfield 44, 3) := by decide +kernel
theorem dX0_perform_128 : decode cX0_perform 128 = .ok (.goto 3, 3) := by decide +kernel
theorem dX0_perform_131 : decode cX0_perform 131 = .ok (.return_, 1) := by decide +kernel
theorem dX0_stepFrom_0 : decode cX0_stepFrom 0 = .ok (.iload_n 1, 1) := by decide +kernel
theorem dX0_stepFrom_1 : decode cX0_stepFrom 1 = .ok (.tableswitch 101 0 3 #[31, 50, 68, 85], 31) := by decide +kernel
theorem dX0_stepFrom_32 : decode cX0_stepFrom 32 = .ok (.iload_n 0, 1) := by decide +kernel
theorem dX0_stepFrom_33 : decode cX0_stepFrom 33 = .ok (.invokestatic 145, 3) := by decide +kernel
theorem dX0_stepFrom_36 : decode cX0_stepFrom 36 = .ok (.bipush 7, 2) := by decide +kernel
theorem dX0_stepFrom_38 : decode cX0_stepFrom 38 = .ok (.if_icmp .ge 10, 3) := by decide +kernel
theorem dX0_stepFrom_41 : decode cX0_stepFrom 41 = .ok (.iload_n 0, 1) := by decide +kernel
theorem dX0_stepFrom_42 : decode cX0_stepFrom 42 = .ok (.bipush 8, 2) := by decide +kernel
theorem dX0_stepFrom_44 : decode cX0_stepFrom 44 = .ok (.iadd, 1) := by decide +kernel
theorem dX0_stepFrom_45 : decode cX0_stepFrom 45 = .ok (.goto 5, 3) := by decide +kernel
theorem dX0_stepFrom_48 : decode cX0_stepFrom 48 = .ok (.bipush (-6), 2) := by decide +kernel
theorem dX0_stepFrom_50 : decode cX0_stepFrom 50 = .ok (.ireturn, 1) := by decide +kernel
theorem dX0_stepFrom_51 : decode cX0_stepFrom 51 = .ok (.iload_n 0, 1) := by decide +kernel
theorem dX0_stepFrom_52 : decode cX0_stepFrom 52 = .ok (.invokestatic 148, 3) := by decide +kernel
theorem dX0_stepFrom_55 : decode cX0_stepFrom 55 = .ok (.bipush 7, 2) := by decide +kernel
theorem dX0_stepFrom_57 : decode cX0_stepFrom 57 = .ok (.if_icmp .ge 9, 3) := by decide +kernel
theorem dX0_stepFrom_60 : decode cX0_stepFrom 60 = .ok (.iload_n 0, 1) := by decide +kernel
theorem dX0_stepFrom_61 : decode cX0_stepFrom 61 = .ok (.iconst 1, 1) := by decide +kernel
theorem dX0_stepFrom_62 : decode cX0_stepFrom 62 = .ok (.iadd, 1) := by decide +kernel
theorem dX0_stepFrom_63 : decode cX0_stepFrom 63 = .ok (.goto 5, 3) := by decide +kernel
theorem dX0_stepFrom_66 : decode cX0_stepFrom 66 = .ok (.bipush (-6), 2) := by decide +kernel
theorem dX0_stepFrom_68 : decode cX0_stepFrom 68 = .ok (.ireturn, 1) := by decide +kernel
theorem dX0_stepFrom_69 : decode cX0_stepFrom 69 = .ok (.iload_n 0, 1) := by decide +kernel
theorem dX0_stepFrom_70 : decode cX0_stepFrom 70 = .ok (.invokestatic 145, 3) := by decide +kernel
theorem dX0_stepFrom_73 : decode cX0_stepFrom 73 = .ok (.ifCond .le 10, 3) := by decide +kernel
theorem dX0_stepFrom_76 : decode cX0_stepFrom 76 = .ok (.iload_n 0, 1) := by decide +kernel
theorem dX0_stepFrom_77 : decode cX0_stepFrom 77 = .ok (.bipush 8, 2) := by decide +kernel
theorem dX0_stepFrom_79 : decode cX0_stepFrom 79 = .ok (.isub, 1) := by decide +kernel
theorem dX0_stepFrom_80 : decode cX0_stepFrom 80 = .ok (.goto 5, 3) := by decide +kernel
theorem dX0_stepFrom_83 : decode cX0_stepFrom 83 = .ok (.bipush (-6), 2) := by decide +kernel
theorem dX0_stepFrom_85 : decode cX0_stepFrom 85 = .ok (.ireturn, 1) := by decide +kernel
theorem dX0_stepFrom_86 : decode cX0_stepFrom 86 = .ok (.iload_n 0, 1) := by decide +kernel
theorem dX0_stepFrom_87 : decode cX0_stepFrom 87 = .ok (.invokestatic 148, 3) := by decide +kernel
theorem dX0_stepFrom_90 : decode cX0_stepFrom 90 = .ok (.ifCond .le 9, 3) := by decide +kernel
theorem dX0_stepFrom_93 : decode cX0_stepFrom 93 = .ok (.iload_n 0, 1) := by decide +kernel
theorem dX0_stepFrom_94 : decode cX0_stepFrom 94 = .ok (.iconst 1, 1) := by decide +kernel
theorem dX0_stepFrom_95 : decode cX0_stepFrom 95 = .ok (.isub, 1) := by decide +kernel
theorem dX0_stepFrom_96 : decode cX0_stepFrom 96 = .ok (.goto 5, 3) := by decide +kernel
theorem dX0_stepFrom_99 : decode cX0_stepFrom 99 = .ok (.bipush (-6), 2) := by decide +kernel
theorem dX0_stepFrom_101 : decode cX0_stepFrom 101 = .ok (.ireturn, 1) := by decide +kernel
theorem dX0_stepFrom_102 : decode cX0_stepFrom 102 = .ok (.iload_n 0, 1) := by decide +kernel
theorem dX0_stepFrom_103 : decode cX0_stepFrom 103 = .ok (.ireturn, 1) := by decide +kernel
theorem dX0_passNight_0 : decode cX0_passNight 0 = .ok (.iconst 0, 1) := by decide +kernel
theorem dX0_passNight_1 : decode cX0_passNight 1 = .ok (.istore_n 1, 1) := by decide +kernel
theorem dX0_passNight_2 : decode cX0_passNight 2 = .ok (.iload_n 1, 1) := by decide +kernel
theorem dX0_passNight_3 : decode cX0_passNight 3 = .ok (.bipush 6, 2) := by decide +kernel
theorem dX0_passNight_5 : decode cX0_passNight 5 = .ok (.if_icmp .ge 63, 3) := by decide +kernel
theorem dX0_passNight_8 : decode cX0_passNight 8 = .ok (.aload_n 0, 1) := by decide +kernel
theorem dX0_passNight_9 : decode cX0_passNight 9 = .ok (.aload_n 0, 1) := by decide +kernel
theorem dX0_passNight_10 : decode cX0_passNight 10 = .ok (.iload_n 1, 1) := by decide +kernel
theorem dX0_passNight_11 : decode cX0_passNight 11 = .ok (.invokevirtual 54, 3) := by decide +kernel
theorem dX0_passNight_14 : decode cX0_passNight 14 = .ok (.aload_n 0, 1) := by decide +kernel
theorem dX0_passNight_15 : decode cX0_passNight 15 = .ok (.getfield 24, 3) := by decide +kernel
theorem dX0_passNight_18 : decode cX0_passNight 18 = .ok (.iload_n 1, 1) := by decide +kernel
theorem dX0_passNight_19 : decode cX0_passNight 19 = .ok (.laload, 1) := by decide +kernel
theorem dX0_passNight_20 : decode cX0_passNight 20 = .ok (.land, 1) := by decide +kernel
theorem dX0_passNight_21 : decode cX0_passNight 21 = .ok (.invokevirtual 95, 3) := by decide +kernel
theorem dX0_passNight_24 : decode cX0_passNight 24 = .ok (.istore_n 2, 1) := by decide +kernel
theorem dX0_passNight_25 : decode cX0_passNight 25 = .ok (.iload_n 2, 1) := by decide +kernel
theorem dX0_passNight_26 : decode cX0_passNight 26 = .ok (.bipush 10, 2) := by decide +kernel
theorem dX0_passNight_28 : decode cX0_passNight 28 = .ok (.idiv, 1) := by decide +kernel
theorem dX0_passNight_29 : decode cX0_passNight 29 = .ok (.istore_n 3, 1) := by decide +kernel
theorem dX0_passNight_30 : decode cX0_passNight 30 = .ok (.aload_n 0, 1) := by decide +kernel
theorem dX0_passNight_31 : decode cX0_passNight 31 = .ok (.dup, 1) := by decide +kernel
theorem dX0_passNight_32 : decode cX0_passNight 32 = .ok (.getfield 47, 3) := by decide +kernel
theorem dX0_passNight_35 : decode cX0_passNight 35 = .ok (.iload_n 3, 1) := by decide +kernel
theorem dX0_passNight_36 : decode cX0_passNight 36 = .ok (.iadd, 1) := by decide +kernel
theorem dX0_passNight_37 : decode cX0_passNight 37 = .ok (.putfield 47, 3) := by decide +kernel
theorem dX0_passNight_40 : decode cX0_passNight 40 = .ok (.aload_n 0, 1) := by decide +kernel
theorem dX0_passNight_41 : decode cX0_passNight 41 = .ok (.getfield 21, 3) := by decide +kernel
theorem dX0_passNight_44 : decode cX0_passNight 44 = .ok (.iload_n 1, 1) := by decide +kernel
theorem dX0_passNight_45 : decode cX0_passNight 45 = .ok (.sipush 999, 3) := by decide +kernel
theorem dX0_passNight_48 : decode cX0_passNight 48 = .ok (.aload_n 0, 1) := by decide +kernel
theorem dX0_passNight_49 : decode cX0_passNight 49 = .ok (.getfield 21, 3) := by decide +kernel
theorem dX0_passNight_52 : decode cX0_passNight 52 = .ok (.iload_n 1, 1) := by decide +kernel
theorem dX0_passNight_53 : decode cX0_passNight 53 = .ok (.iaload, 1) := by decide +kernel
theorem dX0_passNight_54 : decode cX0_passNight 54 = .ok (.iload_n 2, 1) := by decide +kernel
theorem dX0_passNight_55 : decode cX0_passNight 55 = .ok (.iadd, 1) := by decide +kernel
theorem dX0_passNight_56 : decode cX0_passNight 56 = .ok (.iload_n 3, 1) := by decide +kernel
theorem dX0_passNight_57 : decode cX0_passNight 57 = .ok (.isub, 1) := by decide +kernel
theorem dX0_passNight_58 : decode cX0_passNight 58 = .ok (.invokestatic 101, 3) := by decide +kernel
theorem dX0_passNight_61 : decode cX0_passNight 61 = .ok (.iastore, 1) := by decide +kernel
theorem dX0_passNight_62 : decode cX0_passNight 62 = .ok (.iinc 1 1, 3) := by decide +kernel
theorem dX0_passNight_65 : decode cX0_passNight 65 = .ok (.goto (-63), 3) := by decide +kernel
theorem dX0_passNight_68 : decode cX0_passNight 68 = .ok (.return_, 1) := by decide +kernel
theorem dX1_init_0 : decode cX1_init 0 = .ok (.aload_n 0, 1) := by decide +kernel
theorem dX1_init_1 : decode cX1_init 1 = .ok (.invokespecial 1, 3) := by decide +kernel
theorem dX1_init_4 : decode cX1_init 4 = .ok (.aload_n 0, 1) := by decide +kernel
theorem dX1_init_5 : decode cX1_init 5 = .ok (.new 7, 3) := by decide +kernel
theorem dX1_init_8 : decode cX1_init 8 = .ok (.dup, 1) := by decide +kernel
theorem dX1_init_9 : decode cX1_init 9 = .ok (.invokespecial 9, 3) := by decide +kernel
theorem dX1_init_12 : decode cX1_init 12 = .ok (.putfield 10, 3) := by decide +kernel
theorem dX1_init_15 : decode cX1_init 15 = .ok (.aload_n 0, 1) := by decide +kernel
theorem dX1_init_16 : decode cX1_init 16 = .ok (.new 16, 3) := by decide +kernel
theorem dX1_init_19 : decode cX1_init 19 = .ok (.dup, 1) := by decide +kernel
theorem dX1_init_20 : decode cX1_init 20 = .ok (.invokespecial 18, 3) := by decide +kernel
theorem dX1_init_23 : decode cX1_init 23 = .ok (.putfield 19, 3) := by decide +kernel
theorem dX1_init_26 : decode cX1_init 26 = .ok (.aload_n 0, 1) := by decide +kernel
theorem dX1_init_27 : decode cX1_init 27 = .ok (.new 23, 3) := by decide +kernel
theorem dX1_init_30 : decode cX1_init 30 = .ok (.dup, 1) := by decide +kernel
theorem dX1_init_31 : decode cX1_init 31 = .ok (.invokespecial 25, 3) := by decide +kernel
theorem dX1_init_34 : decode cX1_init 34 = .ok (.putfield 26, 3) := by decide +kernel
theorem dX1_init_37 : decode cX1_init 37 = .ok (.return_, 1) := by decide +kernel
theorem dX1_copyFrom_0 : decode cX1_copyFrom 0 = .ok (.aload_n 0, 1) := by decide +kernel
theorem dX1_copyFrom_1 : decode cX1_copyFrom 1 = .ok (.getfield 10, 3) := by decide +kernel
theorem dX1_copyFrom_4 : decode cX1_copyFrom 4 = .ok (.aload_n 1, 1) := by decide +kernel
theorem dX1_copyFrom_5 : decode cX1_copyFrom 5 = .ok (.getfield 10, 3) := by decide +kernel
theorem dX1_copyFrom_8 : decode cX1_copyFrom 8 = .ok (.invokevirtual 30, 3) := by decide +kernel
theorem dX1_copyFrom_11 : decode cX1_copyFrom 11 = .ok (.aload_n 0, 1) := by decide +kernel
theorem dX1_copyFrom_12 : decode cX1_copyFrom 12 = .ok (.getfield 19, 3) := by decide +kernel
theorem dX1_copyFrom_15 : decode cX1_copyFrom 15 = .ok (.aload_n 1, 1) := by decide +kernel
theorem dX1_copyFrom_16 : decode cX1_copyFrom 16 = .ok (.getfield 19, 3) := by decide +kernel
theorem dX1_copyFrom_19 : decode cX1_copyFrom 19 = .ok (.invokevirtual 34, 3) := by decide +kernel
theorem dX1_copyFrom_22 : decode cX1_copyFrom 22 = .ok (.aload_n 0, 1) := by decide +kernel
theorem dX1_copyFrom_23 : decode cX1_copyFrom 23 = .ok (.getfield 26, 3) := by decide +kernel
theorem dX1_copyFrom_26 : decode cX1_copyFrom 26 = .ok (.aload_n 1, 1) := by decide +kernel
theorem dX1_copyFrom_27 : decode cX1_copyFrom 27 = .ok (.getfield 26, 3) := by decide +kernel
theorem dX1_copyFrom_30 : decode cX1_copyFrom 30 = .ok (.invokevirtual 37, 3) := by decide +kernel
theorem dX1_copyFrom_33 : decode cX1_copyFrom 33 = .ok (.return_, 1) := by decide +kernel
theorem dX1_markKept_0 : decode cX1_markKept 0 = .ok (.aload_n 0, 1) := by decide +kernel
theorem dX1_markKept_1 : decode cX1_markKept 1 = .ok (.iconst 1, 1) := by decide +kernel
theorem dX1_markKept_2 : decode cX1_markKept 2 = .ok (.putfield 40, 3) := by decide +kernel
theorem dX1_markKept_5 : decode cX1_markKept 5 = .ok (.return_, 1) := by decide +kernel
theorem dX1_isKept_0 : decode cX1_isKept 0 = .ok (.aload_n 0, 1) := by decide +kernel
theorem dX1_isKept_1 : decode cX1_isKept 1 = .ok (.getfield 40, 3) := by decide +kernel
theorem dX1_isKept_4 : decode cX1_isKept 4 = .ok (.ireturn, 1) := by decide +kernel
theorem dX2_init_0 : decode cX2_init 0 = .ok (.aload_n 0, 1) := by decide +kernel
theorem dX2_init_1 : decode cX2_init 1 = .ok (.invokespecial 3, 3) := by decide +kernel
theorem dX2_init_4 : decode cX2_init 4 = .ok (.aload_n 0, 1) := by decide +kernel
theorem dX2_init_5 : decode cX2_init 5 = .ok (.bipush 60, 2) := by decide +kernel
theorem dX2_init_7 : decode cX2_init 7 = .ok (.newarray .int, 2) := by decide +kernel
theorem dX2_init_9 : decode cX2_init 9 = .ok (.putfield 9, 3) := by decide +kernel
theorem dX2_init_12 : decode cX2_init 12 = .ok (.return_, 1) := by decide +kernel
theorem dX2_size_0 : decode cX2_size 0 = .ok (.aload_n 0, 1) := by decide +kernel
theorem dX2_size_1 : decode cX2_size 1 = .ok (.getfield 15, 3) := by decide +kernel
theorem dX2_size_4 : decode cX2_size 4 = .ok (.ireturn, 1) := by decide +kernel
theorem dX2_clear_0 : decode cX2_clear 0 = .ok (.aload_n 0, 1) := by decide +kernel
theorem dX2_clear_1 : decode cX2_clear 1 = .ok (.iconst 0, 1) := by decide +kernel
theorem dX2_clear_2 : decode cX2_clear 2 = .ok (.putfield 15, 3) := by decide +kernel
theorem dX2_clear_5 : decode cX2_clear 5 = .ok (.return_, 1) := by decide +kernel
theorem dX2_add_0 : decode cX2_add 0 = .ok (.aload_n 0, 1) := by decide +kernel
theorem dX2_add_1 : decode cX2_add 1 = .ok (.getfield 15, 3) := by decide +kernel
theorem dX2_add_4 : decode cX2_add 4 = .ok (.ifCond .lt 15, 3) := by decide +kernel
theorem dX2_add_7 : decode cX2_add 7 = .ok (.aload_n 0, 1) := by decide +kernel
theorem dX2_add_8 : decode cX2_add 8 = .ok (.getfield 15, 3) := by decide +kernel
theorem dX2_add_11 : decode cX2_add 11 = .ok (.aload_n 0, 1) := by decide +kernel
theorem dX2_add_12 : decode cX2_add 12 = .ok (.getfield 9, 3) := by decide +kernel
theorem dX2_add_15 : decode cX2_add 15 = .ok (.arraylength, 1) := by decide +kernel
theorem dX2_add_16 : decode cX2_add 16 = .ok (.if_icmp .lt 5, 3) := by decide +kernel
theorem dX2_add_19 : decode cX2_add 19 = .ok (.iconst 0, 1) := by decide +kernel
theorem dX2_add_20 : decode cX2_add 20 = .ok (.ireturn, 1) := by decide +kernel
theorem dX2_add_21 : decode cX2_add 21 = .ok (.aload_n 0, 1) := by decide +kernel
theorem dX2_add_22 : decode cX2_add 22 = .ok (.getfield 9, 3) := by decide +kernel
theorem dX2_add_25 : decode cX2_add 25 = .ok (.aload_n 0, 1) := by decide +kernel
theorem dX2_add_26 : decode cX2_add 26 = .ok (.getfield 15, 3) := by decide +kernel
theorem dX2_add_29 : decode cX2_add 29 = .ok (.iload_n 1, 1) := by decide +kernel
theorem dX2_add_30 : decode cX2_add 30 = .ok (.iastore, 1) := by decide +kernel
theorem dX2_add_31 : decode cX2_add 31 = .ok (.aload_n 0, 1) := by decide +kernel
theorem dX2_add_32 : decode cX2_add 32 = .ok (.dup, 1) := by decide +kernel
theorem dX2_add_33 : decode cX2_add 33 = .ok (.getfield 15, 3) := by decide +kernel
theorem dX2_add_36 : decode cX2_add 36 = .ok (.iconst 1, 1) := by decide +kernel
theorem dX2_add_37 : decode cX2_add 37 = .ok (.iadd, 1) := by decide +kernel
theorem dX2_add_38 : decode cX2_add 38 = .ok (.putfield 15, 3) := by decide +kernel
theorem dX2_add_41 : decode cX2_add 41 = .ok (.iconst 1, 1) := by decide +kernel
theorem dX2_add_42 : decode cX2_add 42 = .ok (.ireturn, 1) := by decide +kernel
theorem dX2_signAt_0 : decode cX2_signAt 0 = .ok (.iload_n 1, 1) := by decide +kernel
theorem dX2_signAt_1 : decode cX2_signAt 1 = .ok (.ifCond .lt 29, 3) := by decide +kernel
theorem dX2_signAt_4 : decode cX2_signAt 4 = .ok (.iload_n 1, 1) := by decide +kernel
theorem dX2_signAt_5 : decode cX2_signAt 5 = .ok (.aload_n 0, 1) := by decide +kernel
theorem dX2_signAt_6 : decode cX2_signAt 6 = .ok (.getfield 15, 3) := by decide +kernel
theorem dX2_signAt_9 : decode cX2_signAt 9 = .ok (.if_icmp .ge 21, 3) := by decide +kernel
theorem dX2_signAt_12 : decode cX2_signAt 12 = .ok (.iload_n 1, 1) := by decide +kernel
theorem dX2_signAt_13 : decode cX2_signAt 13 = .ok (.aload_n 0, 1) := by decide +kernel
theorem dX2_signAt_14 : decode cX2_signAt 14 = .ok (.getfield 9, 3) := by decide +kernel
theorem dX2_signAt_17 : decode cX2_signAt 17 = .ok (.arraylength, 1) := by decide +kernel
theorem dX2_signAt_18 : decode cX2_signAt 18 = .ok (.if_icmp .ge 12, 3) := by decide +kernel
theorem dX2_signAt_21 : decode cX2_signAt 21 = .ok (.aload_n 0, 1) := by decide +kernel
theorem dX2_signAt_22 : decode cX2_signAt 22 = .ok (.getfield 9, 3) := by decide +kernel
theorem dX2_signAt_25 : decode cX2_signAt 25 = .ok (.iload_n 1, 1) := by decide +kernel
theorem dX2_signAt_26 : decode cX2_signAt 26 = .ok (.iaload, 1) := by decide +kernel
theorem dX2_signAt_27 : decode cX2_signAt 27 = .ok (.goto 4, 3) := by decide +kernel
theorem dX2_signAt_30 : decode cX2_signAt 30 = .ok (.iconst 0, 1) := by decide +kernel
theorem dX2_signAt_31 : decode cX2_signAt 31 = .ok (.ireturn, 1) := by decide +kernel
theorem dX2_firstFault_0 : decode cX2_firstFault 0 = .ok (.iconst 0, 1) := by decide +kernel
theorem dX2_firstFault_1 : decode cX2_firstFault 1 = .ok (.istore_n 1, 1) := by decide +kernel
theorem dX2_firstFault_2 : decode cX2_firstFault 2 = .ok (.iconst 0, 1) := by decide +kernel
theorem dX2_firstFault_3 : decode cX2_firstFault 3 = .ok (.istore_n 2, 1) := by decide +kernel
theorem dX2_firstFault_4 : decode cX2_firstFault 4 = .ok (.iload_n 2, 1) := by decide +kernel
theorem dX2_firstFault_5 : decode cX2_firstFault 5 = .ok (.aload_n 0, 1) := by decide +kernel
theorem dX2_firstFault_6 : decode cX2_firstFault 6 = .ok (.getfield 15, 3) := by decide +kernel
theorem dX2_firstFault_9 : decode cX2_firstFault 9 = .ok (.if_icmp .ge 74, 3) := by decide +kernel
theorem dX2_firstFault_12 : decode cX2_firstFault 12 = .ok (.aload_n 0, 1) := by decide +kernel
theorem dX2_firstFault_13 : decode cX2_firstFault 13 = .ok (.iload_n 2, 1) := by decide +kernel
theorem dX2_firstFault_14 : decode cX2_firstFault 14 = .ok (.invokevirtual 19, 3) := by decide +kernel
theorem dX2_firstFault_17 : decode cX2_firstFault 17 = .ok (.istore_n 3, 1) := by decide +kernel
theorem dX2_firstFault_18 : decode cX2_firstFault 18 = .ok (.iload_n 1, 1) := by decide +kernel
theorem dX2_firstFault_19 : decode cX2_firstFault 19 = .ok (.ifCond .eq 10, 3) := by decide +kernel
theorem dX2_firstFault_22 : decode cX2_firstFault 22 = .ok (.iload_n 3, 1) := by decide +kernel
theorem dX2_firstFault_23 : decode cX2_firstFault 23 = .ok (.invokestatic 23, 3) := by decide +kernel
theorem dX2_firstFault_26 : decode cX2_firstFault 26 = .ok (.goto 25, 3) := by decide +kernel
theorem dX2_firstFault_29 : decode cX2_firstFault 29 = .ok (.iload_n 3, 1) := by decide +kernel
theorem dX2_firstFault_30 : decode cX2_firstFault 30 = .ok (.invokestatic 27, 3) := by decide +kernel
theorem dX2_firstFault_33 : decode cX2_firstFault 33 = .ok (.ifCond .ne 13, 3) := by decide +kernel
theorem dX2_firstFault_36 : decode cX2_firstFault 36 = .ok (.iload_n 3, 1) := by decide +kernel
theorem dX2_firstFault_37 : decode cX2_firstFault 37 = .ok (.invokestatic 30, 3) := by decide +kernel
theorem dX2_firstFault_40 : decode cX2_firstFault 40 = .ok (.invokestatic 33, 3) := by decide +kernel
theorem dX2_firstFault_43 : decode cX2_firstFault 43 = .ok (.ifCond .eq 7, 3) := by decide +kernel
theorem dX2_firstFault_46 : decode cX2_firstFault 46 = .ok (.iconst 1, 1) := by decide +kernel
theorem dX2_firstFault_47 : decode cX2_firstFault 47 = .ok (.goto 4, 3) := by decide +kernel
theorem dX2_firstFault_50 : decode cX2_firstFault 50 = .ok (.iconst 0, 1) := by decide +kernel
theorem dX2_firstFault_51 : decode cX2_firstFault 51 = .ok (.istore 4, 2) := by decide +kernel
theorem dX2_firstFault_53 : decode cX2_firstFault 53 = .ok (.iload 4, 2) := by decide +kernel
theorem dX2_firstFault_55 : decode cX2_firstFault 55 = .ok (.ifCond .ne 5, 3) := by decide +kernel
theorem dX2_firstFault_58 : decode cX2_firstFault 58 = .ok (.iload_n 2, 1) := by decide +kernel
theorem dX2_firstFault_59 : decode cX2_firstFault 59 = .ok (.ireturn, 1) := by decide +kernel
theorem dX2_firstFault_60 : decode cX2_firstFault 60 = .ok (.iload_n 1, 1) := by decide +kernel
theorem dX2_firstFault_61 : decode cX2_firstFault 61 = .ok (.ifCond .ne 14, 3) := by decide +kernel
theorem dX2_firstFault_64 : decode cX2_firstFault 64 = .ok (.iload_n 3, 1) := by decide +kernel
theorem dX2_firstFault_65 : decode cX2_firstFault 65 = .ok (.invokestatic 27, 3) := by decide +kernel
theorem dX2_firstFault_68 : decode cX2_firstFault 68 = .ok (.ifCond .ne 7, 3) := by decide +kernel
theorem dX2_firstFault_71 : decode cX2_firstFault 71 = .ok (.iconst 1, 1) := by decide +kernel
theorem dX2_firstFault_72 : decode cX2_firstFault 72 = .ok (.goto 4, 3) := by decide +kernel
theorem dX2_firstFault_75 : decode cX2_firstFault 75 = .ok (.iconst 0, 1) := by decide +kernel
theorem dX2_firstFault_76 : decode cX2_firstFault 76 = .ok (.istore_n 1, 1) := by decide +kernel
theorem dX2_firstFault_77 : decode cX2_firstFault 77 = .ok (.iinc 2 1, 3) := by decide +kernel
theorem dX2_firstFault_80 : decode cX2_firstFault 80 = .ok (.goto (-76), 3) := by decide +kernel
theorem dX2_firstFault_83 : decode cX2_firstFault 83 = .ok (.iload_n 1, 1) := by decide +kernel
theorem dX2_firstFault_84 : decode cX2_firstFault 84 = .ok (.ifCond .eq 10, 3) := by decide +kernel
theorem dX2_firstFault_87 : decode cX2_firstFault 87 = .ok (.aload_n 0, 1) := by decide +kernel
theorem dX2_firstFault_88 : decode cX2_firstFault 88 = .ok (.getfield 15, 3) := by decide +kernel
theorem dX2_firstFault_91 : decode cX2_firstFault 91 = .ok (.goto 5, 3) := by decide +kernel
theorem dX2_firstFault_94 : decode cX2_firstFault 94 = .ok (.bipush (-6), 2) := by decide +kernel
theorem dX2_firstFault_96 : decode cX2_firstFault 96 = .ok (.ireturn, 1) := by decide +kernel
theorem dX2_isNight_0 : decode cX2_isNight 0 = .ok (.iload_n 0, 1) := by decide +kernel
theorem dX2_isNight_1 : decode cX2_isNight 1 = .ok (.bipush 46, 2) := by decide +kernel
theorem dX2_isNight_3 : decode cX2_isNight 3 = .ok (.if_icmp .ne 7, 3) := by decide +kernel
theorem dX2_isNight_6 : decode cX2_isNight 6 = .ok (.iconst 1, 1) := by decide +kernel
theorem dX2_isNight_7 : decode cX2_isNight 7 = .ok (.goto 4, 3) := by decide +kernel
theorem dX2_isNight_10 : decode cX2_isNight 10 = .ok (.iconst 0, 1) := by decide +kernel
theorem dX2_isNight_11 : decode cX2_isNight 11 = .ok (.ireturn, 1) := by decide +kernel
theorem dX2_manBy_0 : decode cX2_manBy 0 = .ok (.iload_n 0, 1) := by decide +kernel
theorem dX2_manBy_1 : decode cX2_manBy 1 = .ok (.bipush 65, 2) := by decide +kernel
theorem dX2_manBy_3 : decode cX2_manBy 3 = .ok (.isub, 1) := by decide +kernel
theorem dX2_manBy_4 : decode cX2_manBy 4 = .ok (.ireturn, 1) := by decide +kernel
theorem dX2_deedBy_0 : decode cX2_deedBy 0 = .ok (.iconst 0, 1) := by decide +kernel
theorem dX2_deedBy_1 : decode cX2_deedBy 1 = .ok (.istore_n 1, 1) := by decide +kernel
theorem dX2_deedBy_2 : decode cX2_deedBy 2 = .ok (.iload_n 1, 1) := by decide +kernel
theorem dX2_deedBy_3 : decode cX2_deedBy 3 = .ok (.getstatic 36, 3) := by decide +kernel
theorem dX2_deedBy_6 : decode cX2_deedBy 6 = .ok (.arraylength, 1) := by decide +kernel
theorem dX2_deedBy_7 : decode cX2_deedBy 7 = .ok (.if_icmp .ge 20, 3) := by decide +kernel
theorem dX2_deedBy_10 : decode cX2_deedBy 10 = .ok (.getstatic 36, 3) := by decide +kernel
theorem dX2_deedBy_13 : decode cX2_deedBy 13 = .ok (.iload_n 1, 1) := by decide +kernel
theorem dX2_deedBy_14 : decode cX2_deedBy 14 = .ok (.caload, 1) := by decide +kernel
theorem dX2_deedBy_15 : decode cX2_deedBy 15 = .ok (.iload_n 0, 1) := by decide +kernel
theorem dX2_deedBy_16 : decode cX2_deedBy 16 = .ok (.if_icmp .ne 5, 3) := by decide +kernel
theorem dX2_deedBy_19 : decode cX2_deedBy 19 = .ok (.iload_n 1, 1) := by decide +kernel
theorem dX2_deedBy_20 : decode cX2_deedBy 20 = .ok (.ireturn, 1) := by decide +kernel
theorem dX2_deedBy_21 : decode cX2_deedBy 21 = .ok (.iinc 1 1, 3) := by decide +kernel
theorem dX2_deedBy_24 : decode cX2_deedBy 24 = .ok (.goto (-22), 3) := by decide +kernel
theorem dX2_deedBy_27 : decode cX2_deedBy 27 = .ok (.bipush (-6), 2) := by decide +kernel
theorem dX2_deedBy_29 : decode cX2_deedBy 29 = .ok (.ireturn, 1) := by decide +kernel
theorem dX2_isDeedOfMan_0 : decode cX2_isDeedOfMan 0 = .ok (.iload_n 0, 1) := by decide +kernel
theorem dX2_isDeedOfMan_1 : decode cX2_isDeedOfMan 1 = .ok (.invokestatic 27, 3) := by decide +kernel
theorem dX2_isDeedOfMan_4 : decode cX2_isDeedOfMan 4 = .ok (.ifCond .ne 16, 3) := by decide +kernel
theorem dX2_isDeedOfMan_7 : decode cX2_isDeedOfMan 7 = .ok (.iload_n 0, 1) := by decide +kernel
theorem dX2_isDeedOfMan_8 : decode cX2_isDeedOfMan 8 = .ok (.invokestatic 40, 3) := by decide +kernel
theorem dX2_isDeedOfMan_11 : decode cX2_isDeedOfMan 11 = .ok (.bipush (-6), 2) := by decide +kernel
theorem dX2_isDeedOfMan_13 : decode cX2_isDeedOfMan 13 = .ok (.if_icmp .eq 7, 3) := by decide +kernel
theorem dX2_isDeedOfMan_16 : decode cX2_isDeedOfMan 16 = .ok (.iconst 1, 1) := by decide +kernel
theorem dX2_isDeedOfMan_17 : decode cX2_isDeedOfMan 17 = .ok (.goto 4, 3) := by decide +kernel
theorem dX2_isDeedOfMan_20 : decode cX2_isDeedOfMan 20 = .ok (.iconst 0, 1) := by decide +kernel
theorem dX2_isDeedOfMan_21 : decode cX2_isDeedOfMan 21 = .ok (.ireturn, 1) := by decide +kernel
theorem dX3_init_0 : decode cX3_init 0 = .ok (.aload_n 0, 1) := by decide +kernel
theorem dX3_init_1 : decode cX3_init 1 = .ok (.invokespecial 5, 3) := by decide +kernel
theorem dX3_init_4 : decode cX3_init 4 = .ok (.aload_n 0, 1) := by decide +kernel
theorem dX3_init_5 : decode cX3_init 5 = .ok (.ldc2_w 11, 3) := by decide +kernel
theorem dX3_init_8 : decode cX3_init 8 = .ok (.putfield 13, 3) := by decide +kernel
theorem dX3_init_11 : decode cX3_init 11 = .ok (.return_, 1) := by decide +kernel
theorem dX3_copyFrom_0 : decode cX3_copyFrom 0 = .ok (.aload_n 0, 1) := by decide +kernel
theorem dX3_copyFrom_1 : decode cX3_copyFrom 1 = .ok (.aload_n 1, 1) := by decide +kernel
theorem dX3_copyFrom_2 : decode cX3_copyFrom 2 = .ok (.getfield 13, 3) := by decide +kernel
theorem dX3_copyFrom_5 : decode cX3_copyFrom 5 = .ok (.putfield 13, 3) := by decide +kernel
theorem dX3_copyFrom_8 : decode cX3_copyFrom 8 = .ok (.aload_n 0, 1) := by decide +kernel
theorem dX3_copyFrom_9 : decode cX3_copyFrom 9 = .ok (.aload_n 1, 1) := by decide +kernel
theorem dX3_copyFrom_10 : decode cX3_copyFrom 10 = .ok (.getfield 17, 3) := by decide +kernel
theorem dX3_copyFrom_13 : decode cX3_copyFrom 13 = .ok (.putfield 17, 3) := by decide +kernel
theorem dX3_copyFrom_16 : decode cX3_copyFrom 16 = .ok (.return_, 1) := by decide +kernel
theorem dX3_size_0 : decode cX3_size 0 = .ok (.aload_n 0, 1) := by decide +kernel
theorem dX3_size_1 : decode cX3_size 1 = .ok (.getfield 17, 3) := by decide +kernel
theorem dX3_size_4 : decode cX3_size 4 = .ok (.ireturn, 1) := by decide +kernel
theorem dX3_clear_0 : decode cX3_clear 0 = .ok (.aload_n 0, 1) := by decide +kernel
theorem dX3_clear_1 : decode cX3_clear 1 = .ok (.ldc2_w 11, 3) := by decide +kernel
theorem dX3_clear_4 : decode cX3_clear 4 = .ok (.putfield 13, 3) := by decide +kernel
theorem dX3_clear_7 : decode cX3_clear 7 = .ok (.aload_n 0, 1) := by decide +kernel
theorem dX3_clear_8 : decode cX3_clear 8 = .ok (.iconst 0, 1) := by decide +kernel
theorem dX3_clear_9 : decode cX3_clear 9 = .ok (.putfield 17, 3) := by decide +kernel
theorem dX3_clear_12 : decode cX3_clear 12 = .ok (.return_, 1) := by decide +kernel
theorem dX3_add_0 : decode cX3_add 0 = .ok (.aload_n 0, 1) := by decide +kernel
theorem dX3_add_1 : decode cX3_add 1 = .ok (.getfield 17, 3) := by decide +kernel
theorem dX3_add_4 : decode cX3_add 4 = .ok (.bipush 8, 2) := by decide +kernel
theorem dX3_add_6 : decode cX3_add 6 = .ok (.if_icmp .lt 5, 3) := by decide +kernel
theorem dX3_add_9 : decode cX3_add 9 = .ok (.iconst 0, 1) := by decide +kernel
theorem dX3_add_10 : decode cX3_add 10 = .ok (.ireturn, 1) := by decide +kernel
theorem dX3_add_11 : decode cX3_add 11 = .ok (.aload_n 0, 1) := by decide +kernel
theorem dX3_add_12 : decode cX3_add 12 = .ok (.dup, 1) := by decide +kernel
theorem dX3_add_13 : decode cX3_add 13 = .ok (.getfield 13, 3) := by decide +kernel
theorem dX3_add_16 : decode cX3_add 16 = .ok (.iload_n 2, 1) := by decide +kernel
theorem dX3_add_17 : decode cX3_add 17 = .ok (.ifCond .eq 10, 3) := by decide +kernel
theorem dX3_add_20 : decode cX3_add 20 = .ok (.iload_n 1, 1) := by decide +kernel
theorem dX3_add_21 : decode cX3_add 21 = .ok (.invokestatic 21, 3) := by decide +kernel
theorem dX3_add_24 : decode cX3_add 24 = .ok (.goto 11, 3) := by decide +kernel
theorem dX3_add_27 : decode cX3_add 27 = .ok (.iload_n 1, 1) := by decide +kernel
theorem dX3_add_28 : decode cX3_add 28 = .ok (.invokestatic 21, 3) := by decide +kernel
theorem dX3_add_31 : decode cX3_add 31 = .ok (.ldc2_w 25, 3) := by decide +kernel
theorem dX3_add_34 : decode cX3_add 34 = .ok (.lxor, 1) := by decide +kernel
theorem dX3_add_35 : decode cX3_add 35 = .ok (.land, 1) := by decide +kernel
theorem dX3_add_36 : decode cX3_add 36 = .ok (.putfield 13, 3) := by decide +kernel
theorem dX3_add_39 : decode cX3_add 39 = .ok (.aload_n 0, 1) := by decide +kernel
theorem dX3_add_40 : decode cX3_add 40 = .ok (.dup, 1) := by decide +kernel
theorem dX3_add_41 : decode cX3_add 41 = .ok (.getfield 17, 3) := by decide +kernel
theorem dX3_add_44 : decode cX3_add 44 = .ok (.iconst 1, 1) := by decide +kernel
theorem dX3_add_45 : decode cX3_add 45 = .ok (.iadd, 1) := by decide +kernel
theorem dX3_add_46 : decode cX3_add 46 = .ok (.putfield 17, 3) := by decide +kernel
theorem dX3_add_49 : decode cX3_add 49 = .ok (.iconst 1, 1) := by decide +kernel
theorem dX3_add_50 : decode cX3_add 50 = .ok (.ireturn, 1) := by decide +kernel
theorem dX3_countFitting_0 : decode cX3_countFitting 0 = .ok (.aload_n 0, 1) := by decide +kernel
theorem dX3_countFitting_1 : decode cX3_countFitting 1 = .ok (.getfield 13, 3) := by decide +kernel
theorem dX3_countFitting_4 : decode cX3_countFitting 4 = .ok (.invokestatic 27, 3) := by decide +kernel
theorem dX3_countFitting_7 : decode cX3_countFitting 7 = .ok (.ireturn, 1) := by decide +kernel
theorem dX3_countThrough_0 : decode cX3_countThrough 0 = .ok (.aload_n 0, 1) := by decide +kernel
theorem dX3_countThrough_1 : decode cX3_countThrough 1 = .ok (.getfield 13, 3) := by decide +kernel
theorem dX3_countThrough_4 : decode cX3_countThrough 4 = .ok (.iload_n 1, 1) := by decide +kernel
theorem dX3_countThrough_5 : decode cX3_countThrough 5 = .ok (.invokestatic 21, 3) := by decide +kernel
theorem dX3_countThrough_8 : decode cX3_countThrough 8 = .ok (.land, 1) := by decide +kernel
theorem dX3_countThrough_9 : decode cX3_countThrough 9 = .ok (.invokestatic 27, 3) := by decide +kernel
theorem dX3_countThrough_12 : decode cX3_countThrough 12 = .ok (.ireturn, 1) := by decide +kernel
theorem dX3_fittingAt_0 : decode cX3_fittingAt 0 = .ok (.iconst 0, 1) := by decide +kernel
theorem dX3_fittingAt_1 : decode cX3_fittingAt 1 = .ok (.istore_n 2, 1) := by decide +kernel
theorem dX3_fittingAt_2 : decode cX3_fittingAt 2 = .ok (.iconst 0, 1) := by decide +kernel
theorem dX3_fittingAt_3 : decode cX3_fittingAt 3 = .ok (.istore_n 3, 1) := by decide +kernel
theorem dX3_fittingAt_4 : decode cX3_fittingAt 4 = .ok (.iload_n 3, 1) := by decide +kernel
theorem dX3_fittingAt_5 : decode cX3_fittingAt 5 = .ok (.bipush 46, 2) := by decide +kernel
theorem dX3_fittingAt_7 : decode cX3_fittingAt 7 = .ok (.if_icmp .ge 32, 3) := by decide +kernel
theorem dX3_fittingAt_10 : decode cX3_fittingAt 10 = .ok (.aload_n 0, 1) := by decide +kernel
theorem dX3_fittingAt_11 : decode cX3_fittingAt 11 = .ok (.getfield 13, 3) := by decide +kernel
theorem dX3_fittingAt_14 : decode cX3_fittingAt 14 = .ok (.iload_n 3, 1) := by decide +kernel
theorem dX3_fittingAt_15 : decode cX3_fittingAt 15 = .ok (.lushr, 1) := by decide +kernel
theorem dX3_fittingAt_16 : decode cX3_fittingAt 16 = .ok (.lconst 1, 1) := by decide +kernel
theorem dX3_fittingAt_17 : decode cX3_fittingAt 17 = .ok (.land, 1) := by decide +kernel
theorem dX3_fittingAt_18 : decode cX3_fittingAt 18 = .ok (.lconst 1, 1) := by decide +kernel
theorem dX3_fittingAt_19 : decode cX3_fittingAt 19 = .ok (.lcmp, 1) := by decide +kernel
theorem dX3_fittingAt_20 : decode cX3_fittingAt 20 = .ok (.ifCond .ne 13, 3) := by decide +kernel
theorem dX3_fittingAt_23 : decode cX3_fittingAt 23 = .ok (.iload_n 2, 1) := by decide +kernel
theorem dX3_fittingAt_24 : decode cX3_fittingAt 24 = .ok (.iload_n 1, 1) := by decide +kernel
theorem dX3_fittingAt_25 : decode cX3_fittingAt 25 = .ok (.if_icmp .ne 5, 3) := by decide +kernel
theorem dX3_fittingAt_28 : decode cX3_fittingAt 28 = .ok (.iload_n 3, 1) := by decide +kernel
theorem dX3_fittingAt_29 : decode cX3_fittingAt 29 = .ok (.ireturn, 1) := by decide +kernel
theorem dX3_fittingAt_30 : decode cX3_fittingAt 30 = .ok (.iinc 2 1, 3) := by decide +kernel
theorem dX3_fittingAt_33 : decode cX3_fittingAt 33 = .ok (.iinc 3 1, 3) := by decide +kernel
theorem dX3_fittingAt_36 : decode cX3_fittingAt 36 = .ok (.goto (-32), 3) := by decide +kernel
theorem dX3_fittingAt_39 : decode cX3_fittingAt 39 = .ok (.bipush (-6), 2) := by decide +kernel
theorem dX3_fittingAt_41 : decode cX3_fittingAt 41 = .ok (.ireturn, 1) := by decide +kernel
theorem dX3_lodesThrough_0 : decode cX3_lodesThrough 0 = .ok (.iload_n 0, 1) := by decide +kernel
theorem dX3_lodesThrough_1 : decode cX3_lodesThrough 1 = .ok (.invokestatic 33, 3) := by decide +kernel
theorem dX3_lodesThrough_4 : decode cX3_lodesThrough 4 = .ok (.istore_n 1, 1) := by decide +kernel
theorem dX3_lodesThrough_5 : decode cX3_lodesThrough 5 = .ok (.iload_n 0, 1) := by decide +kernel
theorem dX3_lodesThrough_6 : decode cX3_lodesThrough 6 = .ok (.invokestatic 37, 3) := by decide +kernel
theorem dX3_lodesThrough_9 : decode cX3_lodesThrough 9 = .ok (.istore_n 2, 1) := by decide +kernel
theorem dX3_lodesThrough_10 : decode cX3_lodesThrough 10 = .ok (.lconst 1, 1) := by decide +kernel
theorem dX3_lodesThrough_11 : decode cX3_lodesThrough 11 = .ok (.iload_n 2, 1) := by decide +kernel
theorem dX3_lodesThrough_12 : decode cX3_lodesThrough 12 = .ok (.lshl, 1) := by decide +kernel
theorem dX3_lodesThrough_13 : decode cX3_lodesThrough 13 = .ok (.lconst 1, 1) := by decide +kernel
theorem dX3_lodesThrough_14 : decode cX3_lodesThrough 14 = .ok (.bipush 8, 2) := by decide +kernel
theorem dX3_lodesThrough_16 : decode cX3_lodesThrough 16 = .ok (.iload_n 1, 1) := by decide +kernel
theorem dX3_lodesThrough_17 : decode cX3_lodesThrough 17 = .ok (.iadd, 1) := by decide +kernel
theorem dX3_lodesThrough_18 : decode cX3_lodesThrough 18 = .ok (.lshl, 1) := by decide +kernel
theorem dX3_lodesThrough_19 : decode cX3_lodesThrough 19 = .ok (.lor, 1) := by decide +kernel
theorem dX3_lodesThrough_20 : decode cX3_lodesThrough 20 = .ok (.lconst 1, 1) := by decide +kernel
theorem dX3_lodesThrough_21 : decode cX3_lodesThrough 21 = .ok (.bipush 23, 2) := by decide +kernel
theorem dX3_lodesThrough_23 : decode cX3_lodesThrough 23 = .ok (.iload_n 1, 1) := by decide +kernel
theorem dX3_lodesThrough_24 : decode cX3_lodesThrough 24 = .ok (.iadd, 1) := by decide +kernel
theorem dX3_lodesThrough_25 : decode cX3_lodesThrough 25 = .ok (.iload_n 2, 1) := by decide +kernel
theorem dX3_lodesThrough_26 : decode cX3_lodesThrough 26 = .ok (.isub, 1) := by decide +kernel
theorem dX3_lodesThrough_27 : decode cX3_lodesThrough 27 = .ok (.lshl, 1) := by decide +kernel
theorem dX3_lodesThrough_28 : decode cX3_lodesThrough 28 = .ok (.lor, 1) := by decide +kernel
theorem dX3_lodesThrough_29 : decode cX3_lodesThrough 29 = .ok (.lconst 1, 1) := by decide +kernel
theorem dX3_lodesThrough_30 : decode cX3_lodesThrough 30 = .ok (.bipush 31, 2) := by decide +kernel
theorem dX3_lodesThrough_32 : decode cX3_lodesThrough 32 = .ok (.iload_n 1, 1) := by decide +kernel
theorem dX3_lodesThrough_33 : decode cX3_lodesThrough 33 = .ok (.iadd, 1) := by decide +kernel
theorem dX3_lodesThrough_34 : decode cX3_lodesThrough 34 = .ok (.iload_n 2, 1) := by decide +kernel
theorem dX3_lodesThrough_35 : decode cX3_lodesThrough 35 = .ok (.iadd, 1) := by decide +kernel
theorem dX3_lodesThrough_36 : decode cX3_lodesThrough 36 = .ok (.lshl, 1) := by decide +kernel
theorem dX3_lodesThrough_37 : decode cX3_lodesThrough 37 = .ok (.lor, 1) := by decide +kernel
theorem dX3_lodesThrough_38 : decode cX3_lodesThrough 38 = .ok (.lreturn, 1) := by decide +kernel
theorem dX4_init_0 : decode cX4_init 0 = .ok (.aload_n 0, 1) := by decide +kernel
theorem dX4_init_1 : decode cX4_init 1 = .ok (.invokespecial 3, 3) := by decide +kernel
theorem dX4_init_4 : decode cX4_init 4 = .ok (.aload_n 0, 1) := by decide +kernel
theorem dX4_init_5 : decode cX4_init 5 = .ok (.bipush 8, 2) := by decide +kernel
theorem dX4_init_7 : decode cX4_init 7 = .ok (.newarray .int, 2) := by decide +kernel
theorem dX4_init_9 : decode cX4_init 9 = .ok (.putfield 9, 3) := by decide +kernel
theorem dX4_init_12 : decode cX4_init 12 = .ok (.aload_n 0, 1) := by decide +kernel
theorem dX4_init_13 : decode cX4_init 13 = .ok (.bipush 8, 2) := by decide +kernel
theorem dX4_init_15 : decode cX4_init 15 = .ok (.newarray .int, 2) := by decide +kernel
theorem dX4_init_17 : decode cX4_init 17 = .ok (.putfield 15, 3) := by decide +kernel
theorem dX4_init_20 : decode cX4_init 20 = .ok (.return_, 1) := by decide +kernel
theorem dX4_copyFrom_0 : decode cX4_copyFrom 0 = .ok (.aload_n 1, 1) := by decide +kernel
theorem dX4_copyFrom_1 : decode cX4_copyFrom 1 = .ok (.getfield 9, 3) := by decide +kernel
theorem dX4_copyFrom_4 : decode cX4_copyFrom 4 = .ok (.iconst 0, 1) := by decide +kernel
theorem dX4_copyFrom_5 : decode cX4_copyFrom 5 = .ok (.aload_n 0, 1) := by decide +kernel
theorem dX4_copyFrom_6 : decode cX4_copyFrom 6 = .ok (.getfield 9, 3) := by decide +kernel
theorem dX4_copyFrom_9 : decode cX4_copyFrom 9 = .ok (.iconst 0, 1) := by decide +kernel
theorem dX4_copyFrom_10 : decode cX4_copyFrom 10 = .ok (.bipush 8, 2) := by decide +kernel
theorem dX4_copyFrom_12 : decode cX4_copyFrom 12 = .ok (.invokestatic 18, 3) := by decide +kernel
theorem dX4_copyFrom_15 : decode cX4_copyFrom 15 = .ok (.aload_n 1, 1) := by decide +kernel
theorem dX4_copyFrom_16 : decode cX4_copyFrom 16 = .ok (.getfield 15, 3) := by decide +kernel
theorem dX4_copyFrom_19 : decode cX4_copyFrom 19 = .ok (.iconst 0, 1) := by decide +kernel
theorem dX4_copyFrom_20 : decode cX4_copyFrom 20 = .ok (.aload_n 0, 1) := by decide +kernel
theorem dX4_copyFrom_21 : decode cX4_copyFrom 21 = .ok (.getfield 15, 3) := by decide +kernel
theorem dX4_copyFrom_24 : decode cX4_copyFrom 24 = .ok (.iconst 0, 1) := by decide +kernel
theorem dX4_copyFrom_25 : decode cX4_copyFrom 25 = .ok (.bipush 8, 2) := by decide +kernel
theorem dX4_copyFrom_27 : decode cX4_copyFrom 27 = .ok (.invokestatic 18, 3) := by decide +kernel
theorem dX4_copyFrom_30 : decode cX4_copyFrom 30 = .ok (.aload_n 0, 1) := by decide +kernel
theorem dX4_copyFrom_31 : decode cX4_copyFrom 31 = .ok (.aload_n 1, 1) := by decide +kernel
theorem dX4_copyFrom_32 : decode cX4_copyFrom 32 = .ok (.getfield 24, 3) := by decide +kernel
theorem dX4_copyFrom_35 : decode cX4_copyFrom 35 = .ok (.putfield 24, 3) := by decide +kernel
theorem dX4_copyFrom_38 : decode cX4_copyFrom 38 = .ok (.aload_n 0, 1) := by decide +kernel
theorem dX4_copyFrom_39 : decode cX4_copyFrom 39 = .ok (.aload_n 1, 1) := by decide +kernel
theorem dX4_copyFrom_40 : decode cX4_copyFrom 40 = .ok (.getfield 28, 3) := by decide +kernel
theorem dX4_copyFrom_43 : decode cX4_copyFrom 43 = .ok (.putfield 28, 3) := by decide +kernel
theorem dX4_copyFrom_46 : decode cX4_copyFrom 46 = .ok (.return_, 1) := by decide +kernel
theorem dX4_size_0 : decode cX4_size 0 = .ok (.aload_n 0, 1) := by decide +kernel
theorem dX4_size_1 : decode cX4_size 1 = .ok (.getfield 28, 3) := by decide +kernel
theorem dX4_size_4 : decode cX4_size 4 = .ok (.ireturn, 1) := by decide +kernel
theorem dX4_clear_0 : decode cX4_clear 0 = .ok (.aload_n 0, 1) := by decide +kernel
theorem dX4_clear_1 : decode cX4_clear 1 = .ok (.iconst 0, 1) := by decide +kernel
theorem dX4_clear_2 : decode cX4_clear 2 = .ok (.putfield 28, 3) := by decide +kernel
theorem dX4_clear_5 : decode cX4_clear 5 = .ok (.aload_n 0, 1) := by decide +kernel
theorem dX4_clear_6 : decode cX4_clear 6 = .ok (.iconst 0, 1) := by decide +kernel
theorem dX4_clear_7 : decode cX4_clear 7 = .ok (.putfield 24, 3) := by decide +kernel
theorem dX4_clear_10 : decode cX4_clear 10 = .ok (.return_, 1) := by decide +kernel
theorem dX4_add_0 : decode cX4_add 0 = .ok (.aload_n 0, 1) := by decide +kernel
theorem dX4_add_1 : decode cX4_add 1 = .ok (.getfield 28, 3) := by decide +kernel
theorem dX4_add_4 : decode cX4_add 4 = .ok (.ifCond .lt 12, 3) := by decide +kernel
theorem dX4_add_7 : decode cX4_add 7 = .ok (.aload_n 0, 1) := by decide +kernel
theorem dX4_add_8 : decode cX4_add 8 = .ok (.getfield 28, 3) := by decide +kernel
theorem dX4_add_11 : decode cX4_add 11 = .ok (.bipush 8, 2) := by decide +kernel
theorem dX4_add_13 : decode cX4_add 13 = .ok (.if_icmp .lt 5, 3) := by decide +kernel
theorem dX4_add_16 : decode cX4_add 16 = .ok (.iconst 0, 1) := by decide +kernel
theorem dX4_add_17 : decode cX4_add 17 = .ok (.ireturn, 1) := by decide +kernel
theorem dX4_add_18 : decode cX4_add 18 = .ok (.aload_n 0, 1) := by decide +kernel
theorem dX4_add_19 : decode cX4_add 19 = .ok (.getfield 9, 3) := by decide +kernel
theorem dX4_add_22 : decode cX4_add 22 = .ok (.aload_n 0, 1) := by decide +kernel
theorem dX4_add_23 : decode cX4_add 23 = .ok (.getfield 28, 3) := by decide +kernel
theorem dX4_add_26 : decode cX4_add 26 = .ok (.iload_n 1, 1) := by decide +kernel
theorem dX4_add_27 : decode cX4_add 27 = .ok (.iastore, 1) := by decide +kernel
theorem dX4_add_28 : decode cX4_add 28 = .ok (.aload_n 0, 1) := by decide +kernel
theorem dX4_add_29 : decode cX4_add 29 = .ok (.getfield 15, 3) := by decide +kernel
theorem dX4_add_32 : decode cX4_add 32 = .ok (.aload_n 0, 1) := by decide +kernel
theorem dX4_add_33 : decode cX4_add 33 = .ok (.getfield 28, 3) := by decide +kernel
theorem dX4_add_36 : decode cX4_add 36 = .ok (.iload_n 2, 1) := by decide +kernel
theorem dX4_add_37 : decode cX4_add 37 = .ok (.iastore, 1) := by decide +kernel
theorem dX4_add_38 : decode cX4_add 38 = .ok (.iload_n 3, 1) := by decide +kernel
theorem dX4_add_39 : decode cX4_add 39 = .ok (.ifCond .eq 18, 3) := by decide +kernel
theorem dX4_add_42 : decode cX4_add 42 = .ok (.aload_n 0, 1) := by decide +kernel
theorem dX4_add_43 : decode cX4_add 43 = .ok (.dup, 1) := by decide +kernel
theorem dX4_add_44 : decode cX4_add 44 = .ok (.getfield 24, 3) := by decide +kernel
theorem dX4_add_47 : decode cX4_add 47 = .ok (.iconst 1, 1) := by decide +kernel
theorem dX4_add_48 : decode cX4_add 48 = .ok (.aload_n 0, 1) := by decide +kernel
theorem dX4_add_49 : decode cX4_add 49 = .ok (.getfield 28, 3) := by decide +kernel
theorem dX4_add_52 : decode cX4_add 52 = .ok (.ishl, 1) := by decide +kernel
theorem dX4_add_53 : decode cX4_add 53 = .ok (.ior, 1) := by decide +kernel
theorem dX4_add_54 : decode cX4_add 54 = .ok (.putfield 24, 3) := by decide +kernel
theorem dX4_add_57 : decode cX4_add 57 = .ok (.aload_n 0, 1) := by decide +kernel
theorem dX4_add_58 : decode cX4_add 58 = .ok (.dup, 1) := by decide +kernel
theorem dX4_add_59 : decode cX4_add 59 = .ok (.getfield 28, 3) := by decide +kernel
theorem dX4_add_62 : decode cX4_add 62 = .ok (.iconst 1, 1) := by decide +kernel
theorem dX4_add_63 : decode cX4_add 63 = .ok (.iadd, 1) := by decide +kernel
theorem dX4_add_64 : decode cX4_add 64 = .ok (.putfield 28, 3) := by decide +kernel
theorem dX4_add_67 : decode cX4_add 67 = .ok (.iconst 1, 1) := by decide +kernel
theorem dX4_add_68 : decode cX4_add 68 = .ok (.ireturn, 1) := by decide +kernel
theorem dX4_fewestLiars_0 : decode cX4_fewestLiars 0 = .ok (.bipush (-6), 2) := by decide +kernel
theorem dX4_fewestLiars_2 : decode cX4_fewestLiars 2 = .ok (.istore_n 1, 1) := by decide +kernel
theorem dX4_fewestLiars_3 : decode cX4_fewestLiars 3 = .ok (.iconst 0, 1) := by decide +kernel
theorem dX4_fewestLiars_4 : decode cX4_fewestLiars 4 = .ok (.istore_n 2, 1) := by decide +kernel
theorem dX4_fewestLiars_5 : decode cX4_fewestLiars 5 = .ok (.iload_n 2, 1) := by decide +kernel
theorem dX4_fewestLiars_6 : decode cX4_fewestLiars 6 = .ok (.bipush 64, 2) := by decide +kernel
theorem dX4_fewestLiars_8 : decode cX4_fewestLiars 8 = .ok (.if_icmp .ge 46, 3) := by decide +kernel
theorem dX4_fewestLiars_11 : decode cX4_fewestLiars 11 = .ok (.iload_n 1, 1) := by decide +kernel
theorem dX4_fewestLiars_12 : decode cX4_fewestLiars 12 = .ok (.bipush (-6), 2) := by decide +kernel
theorem dX4_fewestLiars_14 : decode cX4_fewestLiars 14 = .ok (.if_icmp .eq 14, 3) := by decide +kernel
theorem dX4_fewestLiars_17 : decode cX4_fewestLiars 17 = .ok (.iload_n 2, 1) := by decide +kernel
theorem dX4_fewestLiars_18 : decode cX4_fewestLiars 18 = .ok (.invokestatic 31, 3) := by decide +kernel
theorem dX4_fewestLiars_21 : decode cX4_fewestLiars 21 = .ok (.iload_n 1, 1) := by decide +kernel
theorem dX4_fewestLiars_22 : decode cX4_fewestLiars 22 = .ok (.invokestatic 31, 3) := by decide +kernel
theorem dX4_fewestLiars_25 : decode cX4_fewestLiars 25 = .ok (.if_icmp .ge 7, 3) := by decide +kernel
theorem dX4_fewestLiars_28 : decode cX4_fewestLiars 28 = .ok (.iconst 1, 1) := by decide +kernel
theorem dX4_fewestLiars_29 : decode cX4_fewestLiars 29 = .ok (.goto 4, 3) := by decide +kernel
theorem dX4_fewestLiars_32 : decode cX4_fewestLiars 32 = .ok (.iconst 0, 1) := by decide +kernel
theorem dX4_fewestLiars_33 : decode cX4_fewestLiars 33 = .ok (.istore_n 3, 1) := by decide +kernel
theorem dX4_fewestLiars_34 : decode cX4_fewestLiars 34 = .ok (.iload_n 3, 1) := by decide +kernel
theorem dX4_fewestLiars_35 : decode cX4_fewestLiars 35 = .ok (.ifCond .eq 13, 3) := by decide +kernel
theorem dX4_fewestLiars_38 : decode cX4_fewestLiars 38 = .ok (.aload_n 0, 1) := by decide +kernel
theorem dX4_fewestLiars_39 : decode cX4_fewestLiars 39 = .ok (.iload_n 2, 1) := by decide +kernel
theorem dX4_fewestLiars_40 : decode cX4_fewestLiars 40 = .ok (.invokevirtual 37, 3) := by decide +kernel
theorem dX4_fewestLiars_43 : decode cX4_fewestLiars 43 = .ok (.ifCond .eq 5, 3) := by decide +kernel
theorem dX4_fewestLiars_46 : decode cX4_fewestLiars 46 = .ok (.iload_n 2, 1) := by decide +kernel
theorem dX4_fewestLiars_47 : decode cX4_fewestLiars 47 = .ok (.istore_n 1, 1) := by decide +kernel
theorem dX4_fewestLiars_48 : decode cX4_fewestLiars 48 = .ok (.iinc 2 1, 3) := by decide +kernel
theorem dX4_fewestLiars_51 : decode cX4_fewestLiars 51 = .ok (.goto (-46), 3) := by decide +kernel
theorem dX4_fewestLiars_54 : decode cX4_fewestLiars 54 = .ok (.iload_n 1, 1) := by decide +kernel
theorem dX4_fewestLiars_55 : decode cX4_fewestLiars 55 = .ok (.ireturn, 1) := by decide +kernel
theorem dX4_holdTogether_0 : decode cX4_holdTogether 0 = .ok (.iconst 0, 1) := by decide +kernel
theorem dX4_holdTogether_1 : decode cX4_holdTogether 1 = .ok (.istore_n 2, 1) := by decide +kernel
theorem dX4_holdTogether_2 : decode cX4_holdTogether 2 = .ok (.iload_n 2, 1) := by decide +kernel
theorem dX4_holdTogether_3 : decode cX4_holdTogether 3 = .ok (.aload_n 0, 1) := by decide +kernel
theorem dX4_holdTogether_4 : decode cX4_holdTogether 4 = .ok (.getfield 28, 3) := by decide +kernel
theorem dX4_holdTogether_7 : decode cX4_holdTogether 7 = .ok (.if_icmp .ge 60, 3) := by decide +kernel
theorem dX4_holdTogether_10 : decode cX4_holdTogether 10 = .ok (.iload_n 2, 1) := by decide +kernel
theorem dX4_holdTogether_11 : decode cX4_holdTogether 11 = .ok (.bipush 8, 2) := by decide +kernel
theorem dX4_holdTogether_13 : decode cX4_holdTogether 13 = .ok (.if_icmp .ge 54, 3) := by decide +kernel
theorem dX4_holdTogether_16 : decode cX4_holdTogether 16 = .ok (.iconst 0, 1) := by decide +kernel
theorem dX4_holdTogether_17 : decode cX4_holdTogether 17 = .ok (.istore_n 3, 1) := by decide +kernel
theorem dX4_holdTogether_18 : decode cX4_holdTogether 18 = .ok (.iload_n 3, 1) := by decide +kernel
theorem dX4_holdTogether_19 : decode cX4_holdTogether 19 = .ok (.iload_n 2, 1) := by decide +kernel
theorem dX4_holdTogether_20 : decode cX4_holdTogether 20 = .ok (.if_icmp .ge 41, 3) := by decide +kernel
theorem dX4_holdTogether_23 : decode cX4_holdTogether 23 = .ok (.aload_n 0, 1) := by decide +kernel
theorem dX4_holdTogether_24 : decode cX4_holdTogether 24 = .ok (.getfield 15, 3) := by decide +kernel
theorem dX4_holdTogether_27 : decode cX4_holdTogether 27 = .ok (.iload_n 2, 1) := by decide +kernel
theorem dX4_holdTogether_28 : decode cX4_holdTogether 28 = .ok (.iaload, 1) := by decide +kernel
theorem dX4_holdTogether_29 : decode cX4_holdTogether 29 = .ok (.aload_n 0, 1) := by decide +kernel
theorem dX4_holdTogether_30 : decode cX4_holdTogether 30 = .ok (.getfield 15, 3) := by decide +kernel
theorem dX4_holdTogether_33 : decode cX4_holdTogether 33 = .ok (.iload_n 3, 1) := by decide +kernel
theorem dX4_holdTogether_34 : decode cX4_holdTogether 34 = .ok (.iaload, 1) := by decide +kernel
theorem dX4_holdTogether_35 : decode cX4_holdTogether 35 = .ok (.if_icmp .ne 20, 3) := by decide +kernel
theorem dX4_holdTogether_38 : decode cX4_holdTogether 38 = .ok (.aload_n 0, 1) := by decide +kernel
theorem dX4_holdTogether_39 : decode cX4_holdTogether 39 = .ok (.iload_n 2, 1) := by decide +kernel
theorem dX4_holdTogether_40 : decode cX4_holdTogether 40 = .ok (.iload_n 1, 1) := by decide +kernel
theorem dX4_holdTogether_41 : decode cX4_holdTogether 41 = .ok (.invokevirtual 41, 3) := by decide +kernel
theorem dX4_holdTogether_44 : decode cX4_holdTogether 44 = .ok (.aload_n 0, 1) := by decide +kernel
theorem dX4_holdTogether_45 : decode cX4_holdTogether 45 = .ok (.iload_n 3, 1) := by decide +kernel
theorem dX4_holdTogether_46 : decode cX4_holdTogether 46 = .ok (.iload_n 1, 1) := by decide +kernel
theorem dX4_holdTogether_47 : decode cX4_holdTogether 47 = .ok (.invokevirtual 41, 3) := by decide +kernel
theorem dX4_holdTogether_50 : decode cX4_holdTogether 50 = .ok (.if_icmp .eq 5, 3) := by decide +kernel
theorem dX4_holdTogether_53 : decode cX4_holdTogether 53 = .ok (.iconst 0, 1) := by decide +kernel
theorem dX4_holdTogether_54 : decode cX4_holdTogether 54 = .ok (.ireturn, 1) := by decide +kernel
theorem dX4_holdTogether_55 : decode cX4_holdTogether 55 = .ok (.iinc 3 1, 3) := by decide +kernel
theorem dX4_holdTogether_58 : decode cX4_holdTogether 58 = .ok (.goto (-40), 3) := by decide +kernel
theorem dX4_holdTogether_61 : decode cX4_holdTogether 61 = .ok (.iinc 2 1, 3) := by decide +kernel
theorem dX4_holdTogether_64 : decode cX4_holdTogether 64 = .ok (.goto (-62), 3) := by decide +kernel
theorem dX4_holdTogether_67 : decode cX4_holdTogether 67 = .ok (.iconst 1, 1) := by decide +kernel
theorem dX4_holdTogether_68 : decode cX4_holdTogether 68 = .ok (.ireturn, 1) := by decide +kernel
theorem dX4_isGoldBy_0 : decode cX4_isGoldBy 0 = .ok (.aload_n 0, 1) := by decide +kernel
theorem dX4_isGoldBy_1 : decode cX4_isGoldBy 1 = .ok (.getfield 24, 3) := by decide +kernel
theorem dX4_isGoldBy_4 : decode cX4_isGoldBy 4 = .ok (.iload_n 1, 1) := by decide +kernel
theorem dX4_isGoldBy_5 : decode cX4_isGoldBy 5 = .ok (.ishr, 1) := by decide +kernel
theorem dX4_isGoldBy_6 : decode cX4_isGoldBy 6 = .ok (.iconst 1, 1) := by decide +kernel
theorem dX4_isGoldBy_7 : decode cX4_isGoldBy 7 = .ok (.iand, 1) := by decide +kernel
theorem dX4_isGoldBy_8 : decode cX4_isGoldBy 8 = .ok (.iconst 1, 1) := by decide +kernel
theorem dX4_isGoldBy_9 : decode cX4_isGoldBy 9 = .ok (.if_icmp .ne 7, 3) := by decide +kernel
theorem dX4_isGoldBy_12 : decode cX4_isGoldBy 12 = .ok (.iconst 1, 1) := by decide +kernel
theorem dX4_isGoldBy_13 : decode cX4_isGoldBy 13 = .ok (.goto 4, 3) := by decide +kernel
theorem dX4_isGoldBy_16 : decode cX4_isGoldBy 16 = .ok (.iconst 0, 1) := by decide +kernel
theorem dX4_isGoldBy_17 : decode cX4_isGoldBy 17 = .ok (.istore_n 3, 1) := by decide +kernel
theorem dX4_isGoldBy_18 : decode cX4_isGoldBy 18 = .ok (.iload_n 1, 1) := by decide +kernel
theorem dX4_isGoldBy_19 : decode cX4_isGoldBy 19 = .ok (.ifCond .lt 26, 3) := by decide +kernel
theorem dX4_isGoldBy_22 : decode cX4_isGoldBy 22 = .ok (.iload_n 1, 1) := by decide +kernel
theorem dX4_isGoldBy_23 : decode cX4_isGoldBy 23 = .ok (.bipush 8, 2) := by decide +kernel
theorem dX4_isGoldBy_25 : decode cX4_isGoldBy 25 = .ok (.if_icmp .ge 20, 3) := by decide +kernel
theorem dX4_isGoldBy_28 : decode cX4_isGoldBy 28 = .ok (.iload_n 2, 1) := by decide +kernel
theorem dX4_isGoldBy_29 : decode cX4_isGoldBy 29 = .ok (.aload_n 0, 1) := by decide +kernel
theorem dX4_isGoldBy_30 : decode cX4_isGoldBy 30 = .ok (.getfield 9, 3) := by decide +kernel
theorem dX4_isGoldBy_33 : decode cX4_isGoldBy 33 = .ok (.iload_n 1, 1) := by decide +kernel
theorem dX4_isGoldBy_34 : decode cX4_isGoldBy 34 = .ok (.iaload, 1) := by decide +kernel
theorem dX4_isGoldBy_35 : decode cX4_isGoldBy 35 = .ok (.invokestatic 45, 3) := by decide +kernel
theorem dX4_isGoldBy_38 : decode cX4_isGoldBy 38 = .ok (.ifCond .eq 7, 3) := by decide +kernel
theorem dX4_isGoldBy_41 : decode cX4_isGoldBy 41 = .ok (.iconst 1, 1) := by decide +kernel
theorem dX4_isGoldBy_42 : decode cX4_isGoldBy 42 = .ok (.goto 4, 3) := by decide +kernel
theorem dX4_isGoldBy_45 : decode cX4_isGoldBy 45 = .ok (.iconst 0, 1) := by decide +kernel
theorem dX4_isGoldBy_46 : decode cX4_isGoldBy 46 = .ok (.istore 4, 2) := by decide +kernel
theorem dX4_isGoldBy_48 : decode cX4_isGoldBy 48 = .ok (.iload_n 3, 1) := by decide +kernel
theorem dX4_isGoldBy_49 : decode cX4_isGoldBy 49 = .ok (.iload 4, 2) := by decide +kernel
theorem dX4_isGoldBy_51 : decode cX4_isGoldBy 51 = .ok (.if_icmp .eq 7, 3) := by decide +kernel
theorem dX4_isGoldBy_54 : decode cX4_isGoldBy 54 = .ok (.iconst 1, 1) := by decide +kernel
theorem dX4_isGoldBy_55 : decode cX4_isGoldBy 55 = .ok (.goto 4, 3) := by decide +kernel
theorem dX4_isGoldBy_58 : decode cX4_isGoldBy 58 = .ok (.iconst 0, 1) := by decide +kernel
theorem dX4_isGoldBy_59 : decode cX4_isGoldBy 59 = .ok (.ireturn, 1) := by decide +kernel
theorem dX5_init_0 : decode cX5_init 0 = .ok (.aload_n 0, 1) := by decide +kernel
theorem dX5_init_1 : decode cX5_init 1 = .ok (.invokespecial 3, 3) := by decide +kernel
theorem dX5_init_4 : decode cX5_init 4 = .ok (.return_, 1) := by decide +kernel
theorem dX5_play_0 : decode cX5_play 0 = .ok (.aload_n 0, 1) := by decide +kernel
theorem dX5_play_1 : decode cX5_play 1 = .ok (.iconst 0, 1) := by decide +kernel
theorem dX5_play_2 : decode cX5_play 2 = .ok (.putfield 9, 3) := by decide +kernel
theorem dX5_play_5 : decode cX5_play 5 = .ok (.aload_n 0, 1) := by decide +kernel
theorem dX5_play_6 : decode cX5_play 6 = .ok (.bipush (-6), 2) := by decide +kernel
theorem dX5_play_8 : decode cX5_play 8 = .ok (.putfield 15, 3) := by decide +kernel
theorem dX5_play_11 : decode cX5_play 11 = .ok (.aload_n 0, 1) := by decide +kernel
theorem dX5_play_12 : decode cX5_play 12 = .ok (.bipush (-6), 2) := by decide +kernel
theorem dX5_play_14 : decode cX5_play 14 = .ok (.putfield 18, 3) := by decide +kernel
theorem dX5_play_17 : decode cX5_play 17 = .ok (.aload_n 0, 1) := by decide +kernel
theorem dX5_play_18 : decode cX5_play 18 = .ok (.bipush (-6), 2) := by decide +kernel
theorem dX5_play_20 : decode cX5_play 20 = .ok (.putfield 21, 3) := by decide +kernel
theorem dX5_play_23 : decode cX5_play 23 = .ok (.aload_n 0, 1) := by decide +kernel
theorem dX5_play_24 : decode cX5_play 24 = .ok (.iconst 0, 1) := by decide +kernel
theorem dX5_play_25 : decode cX5_play 25 = .ok (.putfield 24, 3) := by decide +kernel
theorem dX5_play_28 : decode cX5_play 28 = .ok (.iconst 0, 1) := by decide +kernel
theorem dX5_play_29 : decode cX5_play 29 = .ok (.istore_n 3, 1) := by decide +kernel
theorem dX5_play_30 : decode cX5_play 30 = .ok (.iload_n 3, 1) := by decide +kernel
theorem dX5_play_31 : decode cX5_play 31 = .ok (.aload_n 1, 1) := by decide +kernel
theorem dX5_play_32 : decode cX5_play 32 = .ok (.invokevirtual 27, 3) := by decide +kernel
theorem dX5_play_35 : decode cX5_play 35 = .ok (.if_icmp .ge 67, 3) := by decide +kernel
theorem dX5_play_38 : decode cX5_play 38 = .ok (.aload_n 0, 1) := by decide +kernel
theorem dX5_play_39 : decode cX5_play 39 = .ok (.getfield 15, 3) := by decide +kernel
theorem dX5_play_42 : decode cX5_play 42 = .ok (.bipush (-6), 2) := by decide +kernel
theorem dX5_play_44 : decode cX5_play 44 = .ok (.if_icmp .ne 58, 3) := by decide +kernel
theorem dX5_play_47 : decode cX5_play 47 = .ok (.aload_n 1, 1) := by decide +kernel
theorem dX5_play_48 : decode cX5_play 48 = .ok (.iload_n 3, 1) := by decide +kernel
theorem dX5_play_49 : decode cX5_play 49 = .ok (.invokevirtual 33, 3) := by decide +kernel
theorem dX5_play_52 : decode cX5_play 52 = .ok (.istore 4, 2) := by decide +kernel
theorem dX5_play_54 : decode cX5_play 54 = .ok (.iload 4, 2) := by decide +kernel
theorem dX5_play_56 : decode cX5_play 56 = .ok (.invokestatic 37, 3) := by decide +kernel
theorem dX5_play_59 : decode cX5_play 59 = .ok (.ifCond .eq 17, 3) := by decide +kernel
theorem dX5_play_62 : decode cX5_play 62 = .ok (.aload_n 0, 1) := by decide +kernel
theorem dX5_play_63 : decode cX5_play 63 = .ok (.aload_n 2, 1) := by decide +kernel
theorem dX5_play_64 : decode cX5_play 64 = .ok (.iconst (-1), 1) := by decide +kernel
theorem dX5_play_65 : decode cX5_play 65 = .ok (.bipush 6, 2) := by decide +kernel
theorem dX5_play_67 : decode cX5_play 67 = .ok (.invokevirtual 41, 3) := by decide +kernel
theorem dX5_play_70 : decode cX5_play 70 = .ok (.iinc 3 1, 3) := by decide +kernel
theorem dX5_play_73 : decode cX5_play 73 = .ok (.goto 26, 3) := by decide +kernel
theorem dX5_play_76 : decode cX5_play 76 = .ok (.aload_n 0, 1) := by decide +kernel
theorem dX5_play_77 : decode cX5_play 77 = .ok (.aload_n 2, 1) := by decide +kernel
theorem dX5_play_78 : decode cX5_play 78 = .ok (.iload 4, 2) := by decide +kernel
theorem dX5_play_80 : decode cX5_play 80 = .ok (.invokestatic 45, 3) := by decide +kernel
theorem dX5_play_83 : decode cX5_play 83 = .ok (.aload_n 1, 1) := by decide +kernel
theorem dX5_play_84 : decode cX5_play 84 = .ok (.iload_n 3, 1) := by decide +kernel
theorem dX5_play_85 : decode cX5_play 85 = .ok (.iconst 1, 1) := by decide +kernel
theorem dX5_play_86 : decode cX5_play 86 = .ok (.iadd, 1) := by decide +kernel
theorem dX5_play_87 : decode cX5_play 87 = .ok (.invokevirtual 33, 3) := by decide +kernel
theorem dX5_play_90 : decode cX5_play 90 = .ok (.invokestatic 48, 3) := by decide +kernel
theorem dX5_play_93 : decode cX5_play 93 = .ok (.invokevirtual 41, 3) := by decide +kernel
theorem dX5_play_96 : decode cX5_play 96 = .ok (.iinc 3 2, 3) := by decide +kernel
theorem dX5_play_99 : decode cX5_play 99 = .ok (.goto (-69), 3) := by decide +kernel
theorem dX5_play_102 : decode cX5_play 102 = .ok (.return_, 1) := by decide +kernel
theorem dX5_act_0 : decode cX5_act 0 = .ok (.aload_n 1, 1) := by decide +kernel
theorem dX5_act_1 : decode cX5_act 1 = .ok (.iload_n 2, 1) := by decide +kernel
theorem dX5_act_2 : decode cX5_act 2 = .ok (.iload_n 3, 1) := by decide +kernel
theorem dX5_act_3 : decode cX5_act 3 = .ok (.invokevirtual 51, 3) := by decide +kernel
theorem dX5_act_6 : decode cX5_act 6 = .ok (.istore 4, 2) := by decide +kernel
theorem dX5_act_8 : decode cX5_act 8 = .ok (.iload 4, 2) := by decide +kernel
theorem dX5_act_10 : decode cX5_act 10 = .ok (.ifCond .eq 18, 3) := by decide +kernel
theorem dX5_act_13 : decode cX5_act 13 = .ok (.aload_n 0, 1) := by decide +kernel
theorem dX5_act_14 : decode cX5_act 14 = .ok (.aload_n 0, 1) := by decide +kernel
theorem dX5_act_15 : decode cX5_act 15 = .ok (.getfield 9, 3) := by decide +kernel
theorem dX5_act_18 : decode cX5_act 18 = .ok (.putfield 15, 3) := by decide +kernel
theorem dX5_act_21 : decode cX5_act 21 = .ok (.aload_n 0, 1) := by decide +kernel
theorem dX5_act_22 : decode cX5_act 22 = .ok (.iload 4, 2) := by decide +kernel
theorem dX5_act_24 : decode cX5_act 24 = .ok (.putfield 18, 3) := by decide +kernel
theorem dX5_act_27 : decode cX5_act 27 = .ok (.return_, 1) := by decide +kernel
theorem dX5_act_28 : decode cX5_act 28 = .ok (.iload_n 3, 1) := by decide +kernel
theorem dX5_act_29 : decode cX5_act 29 = .ok (.iconst 5, 1) := by decide +kernel
theorem dX5_act_30 : decode cX5_act 30 = .ok (.if_icmp .ne 42, 3) := by decide +kernel
theorem dX5_act_33 : decode cX5_act 33 = .ok (.aload_n 1, 1) := by decide +kernel
theorem dX5_act_34 : decode cX5_act 34 = .ok (.aload_n 1, 1) := by decide +kernel
theorem dX5_act_35 : decode cX5_act 35 = .ok (.iload_n 2, 1) := by decide +kernel
theorem dX5_act_36 : decode cX5_act 36 = .ok (.invokevirtual 57, 3) := by decide +kernel
theorem dX5_act_39 : decode cX5_act 39 = .ok (.invokevirtual 60, 3) := by decide +kernel
theorem dX5_act_42 : decode cX5_act 42 = .ok (.ifCond .ne 30, 3) := by decide +kernel
theorem dX5_act_45 : decode cX5_act 45 = .ok (.aload_n 0, 1) := by decide +kernel
theorem dX5_act_46 : decode cX5_act 46 = .ok (.getfield 21, 3) := by decide +kernel
theorem dX5_act_49 : decode cX5_act 49 = .ok (.bipush (-6), 2) := by decide +kernel
theorem dX5_act_51 : decode cX5_act 51 = .ok (.if_icmp .ne 11, 3) := by decide +kernel
theorem dX5_act_54 : decode cX5_act 54 = .ok (.aload_n 0, 1) := by decide +kernel
theorem dX5_act_55 : decode cX5_act 55 = .ok (.aload_n 0, 1) := by decide +kernel
theorem dX5_act_56 : decode cX5_act 56 = .ok (.getfield 9, 3) := by decide +kernel
theorem dX5_act_59 : decode cX5_act 59 = .ok (.putfield 21, 3) := by decide +kernel
theorem dX5_act_62 : decode cX5_act 62 = .ok (.aload_n 0, 1) := by decide +kernel
theorem dX5_act_63 : decode cX5_act 63 = .ok (.dup, 1) := by decide +kernel
theorem dX5_act_64 : decode cX5_act 64 = .ok (.getfield 24, 3) := by decide +kernel
theorem dX5_act_67 : decode cX5_act 67 = .ok (.iconst 1, 1) := by decide +kernel
theorem dX5_act_68 : decode cX5_act 68 = .ok (.iadd, 1) := by decide +kernel
theorem dX5_act_69 : decode cX5_act 69 = .ok (.putfield 24, 3) := by decide +kernel
theorem dX5_act_72 : decode cX5_act 72 = .ok (.aload_n 1, 1) := by decide +kernel
theorem dX5_act_73 : decode cX5_act 73 = .ok (.iload_n 2, 1) := by decide +kernel
theorem dX5_act_74 : decode cX5_act 74 = .ok (.iload_n 3, 1) := by decide +kernel
theorem dX5_act_75 : decode cX5_act 75 = .ok (.invokevirtual 63, 3) := by decide +kernel
theorem dX5_act_78 : decode cX5_act 78 = .ok (.aload_n 0, 1) := by decide +kernel
theorem dX5_act_79 : decode cX5_act 79 = .ok (.dup, 1) := by decide +kernel
theorem dX5_act_80 : decode cX5_act 80 = .ok (.getfield 9, 3) := by decide +kernel
theorem dX5_act_83 : decode cX5_act 83 = .ok (.iconst 1, 1) := by decide +kernel
theorem dX5_act_84 : decode cX5_act 84 = .ok (.iadd, 1) := by decide +kernel
theorem dX5_act_85 : decode cX5_act 85 = .ok (.putfield 9, 3) := by decide +kernel
theorem dX5_act_88 : decode cX5_act 88 = .ok (.return_, 1) := by decide +kernel
theorem dX5_countActs_0 : decode cX5_countActs 0 = .ok (.aload_n 0, 1) := by decide +kernel
theorem dX5_countActs_1 : decode cX5_countActs 1 = .ok (.getfield 9, 3) := by decide +kernel
theorem dX5_countActs_4 : decode cX5_countActs 4 = .ok (.ireturn, 1) := by decide +kernel
theorem dX5_badAct_0 : decode cX5_badAct 0 = .ok (.aload_n 0, 1) := by decide +kernel
theorem dX5_badAct_1 : decode cX5_badAct 1 = .ok (.getfield 15, 3) := by decide +kernel
theorem dX5_badAct_4 : decode cX5_badAct 4 = .ok (.ireturn, 1) := by decide +kernel
theorem dX5_badReason_0 : decode cX5_badReason 0 = .ok (.aload_n 0, 1) := by decide +kernel
theorem dX5_badReason_1 : decode cX5_badReason 1 = .ok (.getfield 18, 3) := by decide +kernel
theorem dX5_badReason_4 : decode cX5_badReason 4 = .ok (.ireturn, 1) := by decide +kernel
theorem dX5_firstEmptyClaim_0 : decode cX5_firstEmptyClaim 0 = .ok (.aload_n 0, 1) := by decide +kernel
theorem dX5_firstEmptyClaim_1 : decode cX5_firstEmptyClaim 1 = .ok (.getfield 21, 3) := by decide +kernel
theorem dX5_firstEmptyClaim_4 : decode cX5_firstEmptyClaim 4 = .ok (.ireturn, 1) := by decide +kernel
theorem dX5_countEmptyClaims_0 : decode cX5_countEmptyClaims 0 = .ok (.aload_n 0, 1) := by decide +kernel
theorem dX5_countEmptyClaims_1 : decode cX5_countEmptyClaims 1 = .ok (.getfield 24, 3) := by decide +kernel
theorem dX5_countEmptyClaims_4 : decode cX5_countEmptyClaims 4 = .ok (.ireturn, 1) := by decide +kernel
theorem dX6_init_0 : decode cX6_init 0 = .ok (.aload_n 0, 1) := by decide +kernel
theorem dX6_init_1 : decode cX6_init 1 = .ok (.invokespecial 1, 3) := by decide +kernel
theorem dX6_init_4 : decode cX6_init 4 = .ok (.aload_n 0, 1) := by decide +kernel
theorem dX6_init_5 : decode cX6_init 5 = .ok (.new 7, 3) := by decide +kernel
theorem dX6_init_8 : decode cX6_init 8 = .ok (.dup, 1) := by decide +kernel
theorem dX6_init_9 : decode cX6_init 9 = .ok (.invokespecial 9, 3) := by decide +kernel
theorem dX6_init_12 : decode cX6_init 12 = .ok (.putfield 10, 3) := by decide +kernel
theorem dX6_init_15 : decode cX6_init 15 = .ok (.aload_n 0, 1) := by decide +kernel
theorem dX6_init_16 : decode cX6_init 16 = .ok (.new 7, 3) := by decide +kernel
theorem dX6_init_19 : decode cX6_init 19 = .ok (.dup, 1) := by decide +kernel
theorem dX6_init_20 : decode cX6_init 20 = .ok (.invokespecial 9, 3) := by decide +kernel
theorem dX6_init_23 : decode cX6_init 23 = .ok (.putfield 16, 3) := by decide +kernel
theorem dX6_init_26 : decode cX6_init 26 = .ok (.aload_n 0, 1) := by decide +kernel
theorem dX6_init_27 : decode cX6_init 27 = .ok (.new 7, 3) := by decide +kernel
theorem dX6_init_30 : decode cX6_init 30 = .ok (.dup, 1) := by decide +kernel
theorem dX6_init_31 : decode cX6_init 31 = .ok (.invokespecial 9, 3) := by decide +kernel
theorem dX6_init_34 : decode cX6_init 34 = .ok (.putfield 19, 3) := by decide +kernel
theorem dX6_init_37 : decode cX6_init 37 = .ok (.aload_n 0, 1) := by decide +kernel
theorem dX6_init_38 : decode cX6_init 38 = .ok (.new 22, 3) := by decide +kernel
theorem dX6_init_41 : decode cX6_init 41 = .ok (.dup, 1) := by decide +kernel
theorem dX6_init_42 : decode cX6_init 42 = .ok (.invokespecial 24, 3) := by decide +kernel
theorem dX6_init_45 : decode cX6_init 45 = .ok (.putfield 25, 3) := by decide +kernel
theorem dX6_init_48 : decode cX6_init 48 = .ok (.aload_n 0, 1) := by decide +kernel
theorem dX6_init_49 : decode cX6_init 49 = .ok (.new 29, 3) := by decide +kernel
theorem dX6_init_52 : decode cX6_init 52 = .ok (.dup, 1) := by decide +kernel
theorem dX6_init_53 : decode cX6_init 53 = .ok (.invokespecial 31, 3) := by decide +kernel
theorem dX6_init_56 : decode cX6_init 56 = .ok (.putfield 32, 3) := by decide +kernel
theorem dX6_init_59 : decode cX6_init 59 = .ok (.aload_n 0, 1) := by decide +kernel
theorem dX6_init_60 : decode cX6_init 60 = .ok (.new 36, 3) := by decide +kernel
theorem dX6_init_63 : decode cX6_init 63 = .ok (.dup, 1) := by decide +kernel
theorem dX6_init_64 : decode cX6_init 64 = .ok (.invokespecial 38, 3) := by decide +kernel
theorem dX6_init_67 : decode cX6_init 67 = .ok (.putfield 39, 3) := by decide +kernel
theorem dX6_init_70 : decode cX6_init 70 = .ok (.aload_n 0, 1) := by decide +kernel
theorem dX6_init_71 : decode cX6_init 71 = .ok (.bipush 6, 2) := by decide +kernel
theorem dX6_init_73 : decode cX6_init 73 = .ok (.newarray .int, 2) := by decide +kernel
theorem dX6_init_75 : decode cX6_init 75 = .ok (.putfield 43, 3) := by decide +kernel
theorem dX6_init_78 : decode cX6_init 78 = .ok (.aload_n 0, 1) := by decide +kernel
theorem dX6_init_79 : decode cX6_init 79 = .ok (.bipush 6, 2) := by decide +kernel
theorem dX6_init_81 : decode cX6_init 81 = .ok (.newarray .int, 2) := by decide +kernel
theorem dX6_init_83 : decode cX6_init 83 = .ok (.putfield 47, 3) := by decide +kernel
theorem dX6_init_86 : decode cX6_init 86 = .ok (.aload_n 0, 1) := by decide +kernel
theorem dX6_init_87 : decode cX6_init 87 = .ok (.bipush 6, 2) := by decide +kernel
theorem dX6_init_89 : decode cX6_init 89 = .ok (.newarray .int, 2) := by decide +kernel
theorem dX6_init_91 : decode cX6_init 91 = .ok (.putfield 50, 3) := by decide +kernel
theorem dX6_init_94 : decode cX6_init 94 = .ok (.aload_n 0, 1) := by decide +kernel
theorem dX6_init_95 : decode cX6_init 95 = .ok (.bipush 6, 2) := by decide +kernel
theorem dX6_init_97 : decode cX6_init 97 = .ok (.newarray .int, 2) := by decide +kernel
theorem dX6_init_99 : decode cX6_init 99 = .ok (.putfield 53, 3) := by decide +kernel
theorem dX6_init_102 : decode cX6_init 102 = .ok (.return_, 1) := by decide +kernel
theorem dX6_gold_0 : decode cX6_gold 0 = .ok (.iload_n 1, 1) := by decide +kernel
theorem dX6_gold_1 : decode cX6_gold 1 = .ok (.invokestatic 56, 3) := by decide +kernel
theorem dX6_gold_4 : decode cX6_gold 4 = .ok (.ifCond .eq 13, 3) := by decide +kernel
theorem dX6_gold_7 : decode cX6_gold 7 = .ok (.iload_n 2, 1) := by decide +kernel
theorem dX6_gold_8 : decode cX6_gold 8 = .ok (.iconst 0, 1) := by decide +kernel
theorem dX6_gold_9 : decode cX6_gold 9 = .ok (.bipush 9, 2) := by decide +kernel
theorem dX6_gold_11 : decode cX6_gold 11 = .ok (.invokestatic 60, 3) := by decide +kernel
theorem dX6_gold_14 : decode cX6_gold 14 = .ok (.ifCond .ne 6, 3) := by decide +kernel
theorem dX6_gold_17 : decode cX6_gold 17 = .ok (.bipush (-2), 2) := by decide +kernel
theorem dX6_gold_19 : decode cX6_gold 19 = .ok (.ireturn, 1) := by decide +kernel
theorem dX6_gold_20 : decode cX6_gold 20 = .ok (.aload_n 0, 1) := by decide +kernel
theorem dX6_gold_21 : decode cX6_gold 21 = .ok (.getfield 10, 3) := by decide +kernel
theorem dX6_gold_24 : decode cX6_gold 24 = .ok (.getfield 64, 3) := by decide +kernel
theorem dX6_gold_27 : decode cX6_gold 27 = .ok (.iload_n 1, 1) := by decide +kernel
theorem dX6_gold_28 : decode cX6_gold 28 = .ok (.invokevirtual 67, 3) := by decide +kernel
theorem dX6_gold_31 : decode cX6_gold 31 = .ok (.istore_n 3, 1) := by decide +kernel
theorem dX6_gold_32 : decode cX6_gold 32 = .ok (.aload_n 0, 1) := by decide +kernel
theorem dX6_gold_33 : decode cX6_gold 33 = .ok (.getfield 10, 3) := by decide +kernel
theorem dX6_gold_36 : decode cX6_gold 36 = .ok (.getfield 64, 3) := by decide +kernel
theorem dX6_gold_39 : decode cX6_gold 39 = .ok (.iload_n 1, 1) := by decide +kernel
theorem dX6_gold_40 : decode cX6_gold 40 = .ok (.iload_n 2, 1) := by decide +kernel
theorem dX6_gold_41 : decode cX6_gold 41 = .ok (.invokevirtual 71, 3) := by decide +kernel
theorem dX6_gold_44 : decode cX6_gold 44 = .ok (.iload_n 3, 1) := by decide +kernel
theorem dX6_gold_45 : decode cX6_gold 45 = .ok (.ireturn, 1) := by decide +kernel
theorem dX6_man_0 : decode cX6_man 0 = .ok (.iload_n 1, 1) := by decide +kernel
theorem dX6_man_1 : decode cX6_man 1 = .ok (.invokestatic 75, 3) := by decide +kernel
theorem dX6_man_4 : decode cX6_man 4 = .ok (.ifCond .ne 5, 3) := by decide +kernel
theorem dX6_man_7 : decode cX6_man 7 = .ok (.iconst (-1), 1) := by decide +kernel
theorem dX6_man_8 : decode cX6_man 8 = .ok (.ireturn, 1) := by decide +kernel
theorem dX6_man_9 : decode cX6_man 9 = .ok (.iload_n 2, 1) := by decide +kernel
theorem dX6_man_10 : decode cX6_man 10 = .ok (.invokestatic 56, 3) := by decide +kernel
theorem dX6_man_13 : decode cX6_man 13 = .ok (.ifCond .ne 6, 3) := by decide +kernel
theorem dX6_man_16 : decode cX6_man 16 = .ok (.bipush (-2), 2) := by decide +kernel
theorem dX6_man_18 : decode cX6_man 18 = .ok (.ireturn, 1) := by decide +kernel
theorem dX6_man_19 : decode cX6_man 19 = .ok (.aload_n 0, 1) := by decide +kernel
theorem dX6_man_20 : decode cX6_man 20 = .ok (.getfield 10, 3) := by decide +kernel
theorem dX6_man_23 : decode cX6_man 23 = .ok (.getfield 64, 3) := by decide +kernel
theorem dX6_man_26 : decode cX6_man 26 = .ok (.iload_n 1, 1) := by decide +kernel
theorem dX6_man_27 : decode cX6_man 27 = .ok (.iload_n 2, 1) := by decide +kernel
theorem dX6_man_28 : decode cX6_man 28 = .ok (.invokevirtual 78, 3) := by decide +kernel
theorem dX6_man_31 : decode cX6_man 31 = .ok (.aload_n 0, 1) := by decide +kernel
theorem dX6_man_32 : decode cX6_man 32 = .ok (.getfield 10, 3) := by decide +kernel
theorem dX6_man_35 : decode cX6_man 35 = .ok (.getfield 64, 3) := by decide +kernel
theorem dX6_man_38 : decode cX6_man 38 = .ok (.invokevirtual 81, 3) := by decide +kernel
theorem dX6_man_41 : decode cX6_man 41 = .ok (.ireturn, 1) := by decide +kernel
theorem dX6_leave_0 : decode cX6_leave 0 = .ok (.aload_n 0, 1) := by decide +kernel
theorem dX6_leave_1 : decode cX6_leave 1 = .ok (.getfield 10, 3) := by decide +kernel
theorem dX6_leave_4 : decode cX6_leave 4 = .ok (.getfield 64, 3) := by decide +kernel
theorem dX6_leave_7 : decode cX6_leave 7 = .ok (.iload_n 1, 1) := by decide +kernel
theorem dX6_leave_8 : decode cX6_leave 8 = .ok (.invokevirtual 85, 3) := by decide +kernel
theorem dX6_leave_11 : decode cX6_leave 11 = .ok (.ifCond .ne 5, 3) := by decide +kernel
theorem dX6_leave_14 : decode cX6_leave 14 = .ok (.iconst (-1), 1) := by decide +kernel
theorem dX6_leave_15 : decode cX6_leave 15 = .ok (.ireturn, 1) := by decide +kernel
theorem dX6_leave_16 : decode cX6_leave 16 = .ok (.aload_n 0, 1) := by decide +kernel
theorem dX6_leave_17 : decode cX6_leave 17 = .ok (.getfield 10, 3) := by decide +kernel
theorem dX6_leave_20 : decode cX6_leave 20 = .ok (.getfield 64, 3) := by decide +kernel
theorem dX6_leave_23 : decode cX6_leave 23 = .ok (.iload_n 1, 1) := by decide +kernel
theorem dX6_leave_24 : decode cX6_leave 24 = .ok (.invokevirtual 88, 3) := by decide +kernel
theorem dX6_leave_27 : decode cX6_leave 27 = .ok (.aload_n 0, 1) := by decide +kernel
theorem dX6_leave_28 : decode cX6_leave 28 = .ok (.getfield 10, 3) := by decide +kernel
theorem dX6_leave_31 : decode cX6_leave 31 = .ok (.getfield 64, 3) := by decide +kernel
theorem dX6_leave_34 : decode cX6_leave 34 = .ok (.invokevirtual 81, 3) := by decide +kernel
theorem dX6_leave_37 : decode cX6_leave 37 = .ok (.ireturn, 1) := by decide +kernel
theorem dX6_know_0 : decode cX6_know 0 = .ok (.aload_n 0, 1) := by decide +kernel
theorem dX6_know_1 : decode cX6_know 1 = .ok (.getfield 10, 3) := by decide +kernel
theorem dX6_know_4 : decode cX6_know 4 = .ok (.getfield 64, 3) := by decide +kernel
theorem dX6_know_7 : decode cX6_know 7 = .ok (.iload_n 1, 1) := by decide +kernel
theorem dX6_know_8 : decode cX6_know 8 = .ok (.invokevirtual 85, 3) := by decide +kernel
theorem dX6_know_11 : decode cX6_know 11 = .ok (.ifCond .ne 5, 3) := by decide +kernel
theorem dX6_know_14 : decode cX6_know 14 = .ok (.iconst (-1), 1) := by decide +kernel
theorem dX6_know_15 : decode cX6_know 15 = .ok (.ireturn, 1) := by decide +kernel
theorem dX6_know_16 : decode cX6_know 16 = .ok (.iload_n 2, 1) := by decide +kernel
theorem dX6_know_17 : decode cX6_know 17 = .ok (.invokestatic 56, 3) := by decide +kernel
theorem dX6_know_20 : decode cX6_know 20 = .ok (.ifCond .ne 6, 3) := by decide +kernel
theorem dX6_know_23 : decode cX6_know 23 = .ok (.bipush (-2), 2) := by decide +kernel
theorem dX6_know_25 : decode cX6_know 25 = .ok (.ireturn, 1) := by decide +kernel
theorem dX6_know_26 : decode cX6_know 26 = .ok (.aload_n 0, 1) := by decide +kernel
theorem dX6_know_27 : decode cX6_know 27 = .ok (.getfield 10, 3) := by decide +kernel
theorem dX6_know_30 : decode cX6_know 30 = .ok (.getfield 64, 3) := by decide +kernel
theorem dX6_know_33 : decode cX6_know 33 = .ok (.iload_n 1, 1) := by decide +kernel
theorem dX6_know_34 : decode cX6_know 34 = .ok (.iload_n 2, 1) := by decide +kernel
theorem dX6_know_35 : decode cX6_know 35 = .ok (.iload_n 3, 1) := by decide +kernel
theorem dX6_know_36 : decode cX6_know 36 = .ok (.invokevirtual 92, 3) := by decide +kernel
theorem dX6_know_39 : decode cX6_know 39 = .ok (.aload_n 0, 1) := by decide +kernel
theorem dX6_know_40 : decode cX6_know 40 = .ok (.getfield 10, 3) := by decide +kernel
theorem dX6_know_43 : decode cX6_know 43 = .ok (.getfield 64, 3) := by decide +kernel
theorem dX6_know_46 : decode cX6_know 46 = .ok (.iload_n 1, 1) := by decide +kernel
theorem dX6_know_47 : decode cX6_know 47 = .ok (.invokevirtual 96, 3) := by decide +kernel
theorem dX6_know_50 : decode cX6_know 50 = .ok (.invokestatic 100, 3) := by decide +kernel
theorem dX6_know_53 : decode cX6_know 53 = .ok (.ireturn, 1) := by decide +kernel
theorem dX6_claim_0 : decode cX6_claim 0 = .ok (.iload_n 2, 1) := by decide +kernel
theorem dX6_claim_1 : decode cX6_claim 1 = .ok (.iconst (-1), 1) := by decide +kernel
theorem dX6_claim_2 : decode cX6_claim 2 = .ok (.if_icmp .eq 19, 3) := by decide +kernel
theorem dX6_claim_5 : decode cX6_claim 5 = .ok (.aload_n 0, 1) := by decide +kernel
theorem dX6_claim_6 : decode cX6_claim 6 = .ok (.getfield 10, 3) := by decide +kernel
theorem dX6_claim_9 : decode cX6_claim 9 = .ok (.getfield 64, 3) := by decide +kernel
theorem dX6_claim_12 : decode cX6_claim 12 = .ok (.iload_n 2, 1) := by decide +kernel
theorem dX6_claim_13 : decode cX6_claim 13 = .ok (.invokevirtual 85, 3) := by decide +kernel
theorem dX6_claim_16 : decode cX6_claim 16 = .ok (.ifCond .ne 5, 3) := by decide +kernel
theorem dX6_claim_19 : decode cX6_claim 19 = .ok (.iconst (-1), 1) := by decide +kernel
theorem dX6_claim_20 : decode cX6_claim 20 = .ok (.ireturn, 1) := by decide +kernel
theorem dX6_claim_21 : decode cX6_claim 21 = .ok (.iload_n 1, 1) := by decide +kernel
theorem dX6_claim_22 : decode cX6_claim 22 = .ok (.invokestatic 56, 3) := by decide +kernel
theorem dX6_claim_25 : decode cX6_claim 25 = .ok (.ifCond .ne 6, 3) := by decide +kernel
theorem dX6_claim_28 : decode cX6_claim 28 = .ok (.bipush (-2), 2) := by decide +kernel
theorem dX6_claim_30 : decode cX6_claim 30 = .ok (.ireturn, 1) := by decide +kernel
theorem dX6_claim_31 : decode cX6_claim 31 = .ok (.aload_n 0, 1) := by decide +kernel
theorem dX6_claim_32 : decode cX6_claim 32 = .ok (.getfield 10, 3) := by decide +kernel
theorem dX6_claim_35 : decode cX6_claim 35 = .ok (.getfield 64, 3) := by decide +kernel
theorem dX6_claim_38 : decode cX6_claim 38 = .ok (.iload_n 1, 1) := by decide +kernel
theorem dX6_claim_39 : decode cX6_claim 39 = .ok (.iload_n 2, 1) := by decide +kernel
theorem dX6_claim_40 : decode cX6_claim 40 = .ok (.invokevirtual 106, 3) := by decide +kernel
theorem dX6_claim_43 : decode cX6_claim 43 = .ok (.aload_n 0, 1) := by decide +kernel
theorem dX6_claim_44 : decode cX6_claim 44 = .ok (.getfield 10, 3) := by decide +kernel
theorem dX6_claim_47 : decode cX6_claim 47 = .ok (.getfield 64, 3) := by decide +kernel
theorem dX6_claim_50 : decode cX6_claim 50 = .ok (.invokevirtual 109, 3) := by decide +kernel
theorem dX6_claim_53 : decode cX6_claim 53 = .ok (.ireturn, 1) := by decide +kernel
theorem dX6_say_0 : decode cX6_say 0 = .ok (.iload_n 1, 1) := by decide +kernel
theorem dX6_say_1 : decode cX6_say 1 = .ok (.bipush 33, 2) := by decide +kernel
theorem dX6_say_3 : decode cX6_say 3 = .ok (.bipush 126, 2) := by decide +kernel
theorem dX6_say_5 : decode cX6_say 5 = .ok (.invokestatic 60, 3) := by decide +kernel
theorem dX6_say_8 : decode cX6_say 8 = .ok (.ifCond .ne 6, 3) := by decide +kernel
theorem dX6_say_11 : decode cX6_say 11 = .ok (.bipush (-2), 2) := by decide +kernel
theorem dX6_say_13 : decode cX6_say 13 = .ok (.ireturn, 1) := by decide +kernel
theorem dX6_say_14 : decode cX6_say 14 = .ok (.aload_n 0, 1) := by decide +kernel
theorem dX6_say_15 : decode cX6_say 15 = .ok (.getfield 25, 3) := by decide +kernel
theorem dX6_say_18 : decode cX6_say 18 = .ok (.iload_n 1, 1) := by decide +kernel
theorem dX6_say_19 : decode cX6_say 19 = .ok (.invokevirtual 112, 3) := by decide +kernel
theorem dX6_say_22 : decode cX6_say 22 = .ok (.ifCond .eq 13, 3) := by decide +kernel
theorem dX6_say_25 : decode cX6_say 25 = .ok (.aload_n 0, 1) := by decide +kernel
theorem dX6_say_26 : decode cX6_say 26 = .ok (.getfield 25, 3) := by decide +kernel
theorem dX6_say_29 : decode cX6_say 29 = .ok (.invokevirtual 115, 3) := by decide +kernel
theorem dX6_say_32 : decode cX6_say 32 = .ok (.goto 5, 3) := by decide +kernel
theorem dX6_say_35 : decode cX6_say 35 = .ok (.bipush (-4), 2) := by decide +kernel
theorem dX6_say_37 : decode cX6_say 37 = .ok (.ireturn, 1) := by decide +kernel
theorem dX6_wipe_0 : decode cX6_wipe 0 = .ok (.aload_n 0, 1) := by decide +kernel
theorem dX6_wipe_1 : decode cX6_wipe 1 = .ok (.getfield 25, 3) := by decide +kernel
theorem dX6_wipe_4 : decode cX6_wipe 4 = .ok (.invokevirtual 115, 3) := by decide +kernel
theorem dX6_wipe_7 : decode cX6_wipe 7 = .ok (.istore_n 1, 1) := by decide +kernel
theorem dX6_wipe_8 : decode cX6_wipe 8 = .ok (.aload_n 0, 1) := by decide +kernel
theorem dX6_wipe_9 : decode cX6_wipe 9 = .ok (.getfield 25, 3) := by decide +kernel
theorem dX6_wipe_12 : decode cX6_wipe 12 = .ok (.invokevirtual 118, 3) := by decide +kernel
theorem dX6_wipe_15 : decode cX6_wipe 15 = .ok (.iload_n 1, 1) := by decide +kernel
theorem dX6_wipe_16 : decode cX6_wipe 16 = .ok (.ireturn, 1) := by decide +kernel
theorem dX6_fault_0 : decode cX6_fault 0 = .ok (.aload_n 0, 1) := by decide +kernel
theorem dX6_fault_1 : decode cX6_fault 1 = .ok (.getfield 25, 3) := by decide +kernel
theorem dX6_fault_4 : decode cX6_fault 4 = .ok (.invokevirtual 121, 3) := by decide +kernel
theorem dX6_fault_7 : decode cX6_fault 7 = .ok (.ireturn, 1) := by decide +kernel
theorem dX6_judge_0 : decode cX6_judge 0 = .ok (.iload_n 1, 1) := by decide +kernel
theorem dX6_judge_1 : decode cX6_judge 1 = .ok (.iconst 0, 1) := by decide +kernel
theorem dX6_judge_2 : decode cX6_judge 2 = .ok (.iconst 2, 1) := by decide +kernel
theorem dX6_judge_3 : decode cX6_judge 3 = .ok (.invokestatic 60, 3) := by decide +kernel
theorem dX6_judge_6 : decode cX6_judge 6 = .ok (.ifCond .ne 6, 3) := by decide +kernel
theorem dX6_judge_9 : decode cX6_judge 9 = .ok (.bipush (-2), 2) := by decide +kernel
theorem dX6_judge_11 : decode cX6_judge 11 = .ok (.ireturn, 1) := by decide +kernel
theorem dX6_judge_12 : decode cX6_judge 12 = .ok (.aload_n 0, 1) := by decide +kernel
theorem dX6_judge_13 : decode cX6_judge 13 = .ok (.invokevirtual 124, 3) := by decide +kernel
theorem dX6_judge_16 : decode cX6_judge 16 = .ok (.istore_n 2, 1) := by decide +kernel
theorem dX6_judge_17 : decode cX6_judge 17 = .ok (.iload_n 2, 1) := by decide +kernel
theorem dX6_judge_18 : decode cX6_judge 18 = .ok (.bipush (-5), 2) := by decide +kernel
theorem dX6_judge_20 : decode cX6_judge 20 = .ok (.if_icmp .eq 14, 3) := by decide +kernel
theorem dX6_judge_23 : decode cX6_judge 23 = .ok (.iload_n 2, 1) := by decide +kernel
theorem dX6_judge_24 : decode cX6_judge 24 = .ok (.bipush (-3), 2) := by decide +kernel
theorem dX6_judge_26 : decode cX6_judge 26 = .ok (.if_icmp .ne 10, 3) := by decide +kernel
theorem dX6_judge_29 : decode cX6_judge 29 = .ok (.iload_n 1, 1) := by decide +kernel
theorem dX6_judge_30 : decode cX6_judge 30 = .ok (.iconst 2, 1) := by decide +kernel
theorem dX6_judge_31 : decode cX6_judge 31 = .ok (.if_icmp .ne 5, 3) := by decide +kernel
theorem dX6_judge_34 : decode cX6_judge 34 = .ok (.iload_n 2, 1) := by decide +kernel
theorem dX6_judge_35 : decode cX6_judge 35 = .ok (.ireturn, 1) := by decide +kernel
theorem dX6_judge_36 : decode cX6_judge 36 = .ok (.iload_n 1, 1) := by decide +kernel
theorem dX6_judge_37 : decode cX6_judge 37 = .ok (.lookupswitch 43 #[(0, 27), (1, 35)], 27) := by decide +kernel
theorem dX6_judge_64 : decode cX6_judge 64 = .ok (.aload_n 0, 1) := by decide +kernel
theorem dX6_judge_65 : decode cX6_judge 65 = .ok (.getfield 32, 3) := by decide +kernel
theorem dX6_judge_68 : decode cX6_judge 68 = .ok (.invokevirtual 127, 3) := by decide +kernel
theorem dX6_judge_71 : decode cX6_judge 71 = .ok (.ireturn, 1) := by decide +kernel
theorem dX6_judge_72 : decode cX6_judge 72 = .ok (.aload_n 0, 1) := by decide +kernel
theorem dX6_judge_73 : decode cX6_judge 73 = .ok (.getfield 32, 3) := by decide +kernel
theorem dX6_judge_76 : decode cX6_judge 76 = .ok (.invokevirtual 130, 3) := by decide +kernel
theorem dX6_judge_79 : decode cX6_judge 79 = .ok (.ireturn, 1) := by decide +kernel
theorem dX6_judge_80 : decode cX6_judge 80 = .ok (.aload_n 0, 1) := by decide +kernel
theorem dX6_judge_81 : decode cX6_judge 81 = .ok (.getfield 39, 3) := by decide +kernel
theorem dX6_judge_84 : decode cX6_judge 84 = .ok (.invokevirtual 133, 3) := by decide +kernel
theorem dX6_judge_87 : decode cX6_judge 87 = .ok (.ireturn, 1) := by decide +kernel
theorem dX6_behind_0 : decode cX6_behind 0 = .ok (.aload_n 0, 1) := by decide +kernel
theorem dX6_behind_1 : decode cX6_behind 1 = .ok (.getfield 10, 3) := by decide +kernel
theorem dX6_behind_4 : decode cX6_behind 4 = .ok (.getfield 64, 3) := by decide +kernel
theorem dX6_behind_7 : decode cX6_behind 7 = .ok (.iload_n 1, 1) := by decide +kernel
theorem dX6_behind_8 : decode cX6_behind 8 = .ok (.invokevirtual 85, 3) := by decide +kernel
theorem dX6_behind_11 : decode cX6_behind 11 = .ok (.ifCond .ne 5, 3) := by decide +kernel
theorem dX6_behind_14 : decode cX6_behind 14 = .ok (.iconst (-1), 1) := by decide +kernel
theorem dX6_behind_15 : decode cX6_behind 15 = .ok (.ireturn, 1) := by decide +kernel
theorem dX6_behind_16 : decode cX6_behind 16 = .ok (.iload_n 2, 1) := by decide +kernel
theorem dX6_behind_17 : decode cX6_behind 17 = .ok (.iconst 0, 1) := by decide +kernel
theorem dX6_behind_18 : decode cX6_behind 18 = .ok (.iconst 3, 1) := by decide +kernel
theorem dX6_behind_19 : decode cX6_behind 19 = .ok (.invokestatic 60, 3) := by decide +kernel
theorem dX6_behind_22 : decode cX6_behind 22 = .ok (.ifCond .ne 6, 3) := by decide +kernel
theorem dX6_behind_25 : decode cX6_behind 25 = .ok (.bipush (-2), 2) := by decide +kernel
theorem dX6_behind_27 : decode cX6_behind 27 = .ok (.ireturn, 1) := by decide +kernel
theorem dX6_behind_28 : decode cX6_behind 28 = .ok (.aload_n 0, 1) := by decide +kernel
theorem dX6_behind_29 : decode cX6_behind 29 = .ok (.invokevirtual 124, 3) := by decide +kernel
theorem dX6_behind_32 : decode cX6_behind 32 = .ok (.istore_n 3, 1) := by decide +kernel
theorem dX6_behind_33 : decode cX6_behind 33 = .ok (.iload_n 3, 1) := by decide +kernel
theorem dX6_behind_34 : decode cX6_behind 34 = .ok (.ifCond .eq 5, 3) := by decide +kernel
theorem dX6_behind_37 : decode cX6_behind 37 = .ok (.iload_n 3, 1) := by decide +kernel
theorem dX6_behind_38 : decode cX6_behind 38 = .ok (.ireturn, 1) := by decide +kernel
theorem dX6_behind_39 : decode cX6_behind 39 = .ok (.iload_n 2, 1) := by decide +kernel
theorem dX6_behind_40 : decode cX6_behind 40 = .ok (.tableswitch 55 0 2 #[28, 37, 46], 28) := by decide +kernel
theorem dX6_behind_68 : decode cX6_behind 68 = .ok (.aload_n 0, 1) := by decide +kernel
theorem dX6_behind_69 : decode cX6_behind 69 = .ok (.getfield 39, 3) := by decide +kernel
theorem dX6_behind_72 : decode cX6_behind 72 = .ok (.iload_n 1, 1) := by decide +kernel
theorem dX6_behind_73 : decode cX6_behind 73 = .ok (.invokevirtual 136, 3) := by decide +kernel
theorem dX6_behind_76 : decode cX6_behind 76 = .ok (.ireturn, 1) := by decide +kernel
theorem dX6_behind_77 : decode cX6_behind 77 = .ok (.aload_n 0, 1) := by decide +kernel
theorem dX6_behind_78 : decode cX6_behind 78 = .ok (.getfield 39, 3) := by decide +kernel
theorem dX6_behind_81 : decode cX6_behind 81 = .ok (.iload_n 1, 1) := by decide +kernel
theorem dX6_behind_82 : decode cX6_behind 82 = .ok (.invokevirtual 139, 3) := by decide +kernel
theorem dX6_behind_85 : decode cX6_behind 85 = .ok (.ireturn, 1) := by decide +kernel
theorem dX6_behind_86 : decode cX6_behind 86 = .ok (.aload_n 0, 1) := by decide +kernel
theorem dX6_behind_87 : decode cX6_behind 87 = .ok (.getfield 39, 3) := by decide +kernel
theorem dX6_behind_90 : decode cX6_behind 90 = .ok (.iload_n 1, 1) := by decide +kernel
theorem dX6_behind_91 : decode cX6_behind 91 = .ok (.invokevirtual 142, 3) := by decide +kernel
theorem dX6_behind_94 : decode cX6_behind 94 = .ok (.ireturn, 1) := by decide +kernel
theorem dX6_behind_95 : decode cX6_behind 95 = .ok (.aload_n 0, 1) := by decide +kernel
theorem dX6_behind_96 : decode cX6_behind 96 = .ok (.getfield 39, 3) := by decide +kernel
theorem dX6_behind_99 : decode cX6_behind 99 = .ok (.iload_n 1, 1) := by decide +kernel
theorem dX6_behind_100 : decode cX6_behind 100 = .ok (.invokevirtual 145, 3) := by decide +kernel
theorem dX6_behind_103 : decode cX6_behind 103 = .ok (.ireturn, 1) := by decide +kernel
theorem dX6_heard_0 : decode cX6_heard 0 = .ok (.iload_n 1, 1) := by decide +kernel
theorem dX6_heard_1 : decode cX6_heard 1 = .ok (.invokestatic 56, 3) := by decide +kernel
theorem dX6_heard_4 : decode cX6_heard 4 = .ok (.ifCond .ne 6, 3) := by decide +kernel
theorem dX6_heard_7 : decode cX6_heard 7 = .ok (.bipush (-2), 2) := by decide +kernel
theorem dX6_heard_9 : decode cX6_heard 9 = .ok (.ireturn, 1) := by decide +kernel
theorem dX6_heard_10 : decode cX6_heard 10 = .ok (.aload_n 0, 1) := by decide +kernel
theorem dX6_heard_11 : decode cX6_heard 11 = .ok (.invokevirtual 124, 3) := by decide +kernel
theorem dX6_heard_14 : decode cX6_heard 14 = .ok (.istore_n 2, 1) := by decide +kernel
theorem dX6_heard_15 : decode cX6_heard 15 = .ok (.iload_n 2, 1) := by decide +kernel
theorem dX6_heard_16 : decode cX6_heard 16 = .ok (.ifCond .eq 5, 3) := by decide +kernel
theorem dX6_heard_19 : decode cX6_heard 19 = .ok (.iload_n 2, 1) := by decide +kernel
theorem dX6_heard_20 : decode cX6_heard 20 = .ok (.ireturn, 1) := by decide +kernel
theorem dX6_heard_21 : decode cX6_heard 21 = .ok (.aload_n 0, 1) := by decide +kernel
theorem dX6_heard_22 : decode cX6_heard 22 = .ok (.getfield 39, 3) := by decide +kernel
theorem dX6_heard_25 : decode cX6_heard 25 = .ok (.invokevirtual 148, 3) := by decide +kernel
theorem dX6_heard_28 : decode cX6_heard 28 = .ok (.aload_n 0, 1) := by decide +kernel
theorem dX6_heard_29 : decode cX6_heard 29 = .ok (.getfield 39, 3) := by decide +kernel
theorem dX6_heard_32 : decode cX6_heard 32 = .ok (.iload_n 1, 1) := by decide +kernel
theorem dX6_heard_33 : decode cX6_heard 33 = .ok (.invokevirtual 151, 3) := by decide +kernel
theorem dX6_heard_36 : decode cX6_heard 36 = .ok (.ireturn, 1) := by decide +kernel
theorem dX6_whose_0 : decode cX6_whose 0 = .ok (.iload_n 1, 1) := by decide +kernel
theorem dX6_whose_1 : decode cX6_whose 1 = .ok (.invokestatic 56, 3) := by decide +kernel
theorem dX6_whose_4 : decode cX6_whose 4 = .ok (.ifCond .ne 6, 3) := by decide +kernel
theorem dX6_whose_7 : decode cX6_whose 7 = .ok (.bipush (-2), 2) := by decide +kernel
theorem dX6_whose_9 : decode cX6_whose 9 = .ok (.ireturn, 1) := by decide +kernel
theorem dX6_whose_10 : decode cX6_whose 10 = .ok (.aload_n 0, 1) := by decide +kernel
theorem dX6_whose_11 : decode cX6_whose 11 = .ok (.invokevirtual 124, 3) := by decide +kernel
theorem dX6_whose_14 : decode cX6_whose 14 = .ok (.istore_n 2, 1) := by decide +kernel
theorem dX6_whose_15 : decode cX6_whose 15 = .ok (.iload_n 2, 1) := by decide +kernel
theorem dX6_whose_16 : decode cX6_whose 16 = .ok (.ifCond .eq 5, 3) := by decide +kernel
theorem dX6_whose_19 : decode cX6_whose 19 = .ok (.iload_n 2, 1) := by decide +kernel
theorem dX6_whose_20 : decode cX6_whose 20 = .ok (.ireturn, 1) := by decide +kernel
theorem dX6_whose_21 : decode cX6_whose 21 = .ok (.aload_n 0, 1) := by decide +kernel
theorem dX6_whose_22 : decode cX6_whose 22 = .ok (.getfield 39, 3) := by decide +kernel
theorem dX6_whose_25 : decode cX6_whose 25 = .ok (.iload_n 1, 1) := by decide +kernel
theorem dX6_whose_26 : decode cX6_whose 26 = .ok (.invokevirtual 154, 3) := by decide +kernel
theorem dX6_whose_29 : decode cX6_whose 29 = .ok (.istore_n 3, 1) := by decide +kernel
theorem dX6_whose_30 : decode cX6_whose 30 = .ok (.iload_n 3, 1) := by decide +kernel
theorem dX6_whose_31 : decode cX6_whose 31 = .ok (.iconst (-1), 1) := by decide +kernel
theorem dX6_whose_32 : decode cX6_whose 32 = .ok (.if_icmp .ne 8, 3) := by decide +kernel
theorem dX6_whose_35 : decode cX6_whose 35 = .ok (.bipush (-6), 2) := by decide +kernel
theorem dX6_whose_37 : decode cX6_whose 37 = .ok (.goto 4, 3) := by decide +kernel
theorem dX6_whose_40 : decode cX6_whose 40 = .ok (.iload_n 3, 1) := by decide +kernel
theorem dX6_whose_41 : decode cX6_whose 41 = .ok (.ireturn, 1) := by decide +kernel
theorem dX6_nothing_0 : decode cX6_nothing 0 = .ok (.iload_n 1, 1) := by decide +kernel
theorem dX6_nothing_1 : decode cX6_nothing 1 = .ok (.invokestatic 157, 3) := by decide +kernel
theorem dX6_nothing_4 : decode cX6_nothing 4 = .ok (.ifCond .ne 6, 3) := by decide +kernel
theorem dX6_nothing_7 : decode cX6_nothing 7 = .ok (.bipush (-2), 2) := by decide +kernel
theorem dX6_nothing_9 : decode cX6_nothing 9 = .ok (.ireturn, 1) := by decide +kernel
theorem dX6_nothing_10 : decode cX6_nothing 10 = .ok (.aload_n 0, 1) := by decide +kernel
theorem dX6_nothing_11 : decode cX6_nothing 11 = .ok (.invokevirtual 124, 3) := by decide +kernel
theorem dX6_nothing_14 : decode cX6_nothing 14 = .ok (.istore_n 2, 1) := by decide +kernel
theorem dX6_nothing_15 : decode cX6_nothing 15 = .ok (.iload_n 2, 1) := by decide +kernel
theorem dX6_nothing_16 : decode cX6_nothing 16 = .ok (.ifCond .eq 5, 3) := by decide +kernel
theorem dX6_nothing_19 : decode cX6_nothing 19 = .ok (.iload_n 2, 1) := by decide +kernel
theorem dX6_nothing_20 : decode cX6_nothing 20 = .ok (.ireturn, 1) := by decide +kernel
theorem dX6_nothing_21 : decode cX6_nothing 21 = .ok (.iload_n 1, 1) := by decide +kernel
theorem dX6_nothing_22 : decode cX6_nothing 22 = .ok (.ifCond .ne 13, 3) := by decide +kernel
theorem dX6_nothing_25 : decode cX6_nothing 25 = .ok (.aload_n 0, 1) := by decide +kernel
theorem dX6_nothing_26 : decode cX6_nothing 26 = .ok (.getfield 32, 3) := by decide +kernel
theorem dX6_nothing_29 : decode cX6_nothing 29 = .ok (.invokevirtual 160, 3) := by decide +kernel
theorem dX6_nothing_32 : decode cX6_nothing 32 = .ok (.goto 10, 3) := by decide +kernel
theorem dX6_nothing_35 : decode cX6_nothing 35 = .ok (.aload_n 0, 1) := by decide +kernel
theorem dX6_nothing_36 : decode cX6_nothing 36 = .ok (.getfield 32, 3) := by decide +kernel
theorem dX6_nothing_39 : decode cX6_nothing 39 = .ok (.invokevirtual 163, 3) := by decide +kernel
theorem dX6_nothing_42 : decode cX6_nothing 42 = .ok (.ireturn, 1) := by decide +kernel
theorem dX6_done_0 : decode cX6_done 0 = .ok (.aload_n 0, 1) := by decide +kernel
theorem dX6_done_1 : decode cX6_done 1 = .ok (.invokevirtual 124, 3) := by decide +kernel
theorem dX6_done_4 : decode cX6_done 4 = .ok (.istore_n 1, 1) := by decide +kernel
theorem dX6_done_5 : decode cX6_done 5 = .ok (.iload_n 1, 1) := by decide +kernel
theorem dX6_done_6 : decode cX6_done 6 = .ok (.ifCond .eq 5, 3) := by decide +kernel
theorem dX6_done_9 : decode cX6_done 9 = .ok (.iload_n 1, 1) := by decide +kernel
theorem dX6_done_10 : decode cX6_done 10 = .ok (.ireturn, 1) := by decide +kernel
theorem dX6_done_11 : decode cX6_done 11 = .ok (.aload_n 0, 1) := by decide +kernel
theorem dX6_done_12 : decode cX6_done 12 = .ok (.getfield 10, 3) := by decide +kernel
theorem dX6_done_15 : decode cX6_done 15 = .ok (.getfield 64, 3) := by decide +kernel
theorem dX6_done_18 : decode cX6_done 18 = .ok (.aload_n 0, 1) := by decide +kernel
theorem dX6_done_19 : decode cX6_done 19 = .ok (.getfield 39, 3) := by decide +kernel
theorem dX6_done_22 : decode cX6_done 22 = .ok (.invokevirtual 166, 3) := by decide +kernel
theorem dX6_done_25 : decode cX6_done 25 = .ok (.aload_n 0, 1) := by decide +kernel
theorem dX6_done_26 : decode cX6_done 26 = .ok (.getfield 25, 3) := by decide +kernel
theorem dX6_done_29 : decode cX6_done 29 = .ok (.invokevirtual 118, 3) := by decide +kernel
theorem dX6_done_32 : decode cX6_done 32 = .ok (.aload_n 0, 1) := by decide +kernel
theorem dX6_done_33 : decode cX6_done 33 = .ok (.getfield 32, 3) := by decide +kernel
theorem dX6_done_36 : decode cX6_done 36 = .ok (.invokevirtual 170, 3) := by decide +kernel
theorem dX6_done_39 : decode cX6_done 39 = .ok (.ireturn, 1) := by decide +kernel
theorem dX6_loudest_0 : decode cX6_loudest 0 = .ok (.iload_n 1, 1) := by decide +kernel
theorem dX6_loudest_1 : decode cX6_loudest 1 = .ok (.invokestatic 157, 3) := by decide +kernel
theorem dX6_loudest_4 : decode cX6_loudest 4 = .ok (.ifCond .ne 6, 3) := by decide +kernel
theorem dX6_loudest_7 : decode cX6_loudest 7 = .ok (.bipush (-2), 2) := by decide +kernel
theorem dX6_loudest_9 : decode cX6_loudest 9 = .ok (.ireturn, 1) := by decide +kernel
theorem dX6_loudest_10 : decode cX6_loudest 10 = .ok (.aload_n 0, 1) := by decide +kernel
theorem dX6_loudest_11 : decode cX6_loudest 11 = .ok (.getfield 10, 3) := by decide +kernel
theorem dX6_loudest_14 : decode cX6_loudest 14 = .ok (.getfield 64, 3) := by decide +kernel
theorem dX6_loudest_17 : decode cX6_loudest 17 = .ok (.astore_n 2, 1) := by decide +kernel
theorem dX6_loudest_18 : decode cX6_loudest 18 = .ok (.aload_n 2, 1) := by decide +kernel
theorem dX6_loudest_19 : decode cX6_loudest 19 = .ok (.invokevirtual 148, 3) := by decide +kernel
theorem dX6_loudest_22 : decode cX6_loudest 22 = .ok (.bipush (-6), 2) := by decide +kernel
theorem dX6_loudest_24 : decode cX6_loudest 24 = .ok (.istore_n 3, 1) := by decide +kernel
theorem dX6_loudest_25 : decode cX6_loudest 25 = .ok (.iconst 0, 1) := by decide +kernel
theorem dX6_loudest_26 : decode cX6_loudest 26 = .ok (.istore 4, 2) := by decide +kernel
theorem dX6_loudest_28 : decode cX6_loudest 28 = .ok (.iconst 0, 1) := by decide +kernel
theorem dX6_loudest_29 : decode cX6_loudest 29 = .ok (.istore 5, 2) := by decide +kernel
theorem dX6_loudest_31 : decode cX6_loudest 31 = .ok (.iload 5, 2) := by decide +kernel
theorem dX6_loudest_33 : decode cX6_loudest 33 = .ok (.bipush 64, 2) := by decide +kernel
theorem dX6_loudest_35 : decode cX6_loudest 35 = .ok (.if_icmp .ge 37, 3) := by decide +kernel
theorem dX6_loudest_38 : decode cX6_loudest 38 = .ok (.aload_n 2, 1) := by decide +kernel
theorem dX6_loudest_39 : decode cX6_loudest 39 = .ok (.iload 5, 2) := by decide +kernel
theorem dX6_loudest_41 : decode cX6_loudest 41 = .ok (.invokevirtual 151, 3) := by decide +kernel
theorem dX6_loudest_44 : decode cX6_loudest 44 = .ok (.istore 6, 2) := by decide +kernel
theorem dX6_loudest_46 : decode cX6_loudest 46 = .ok (.iload_n 3, 1) := by decide +kernel
theorem dX6_loudest_47 : decode cX6_loudest 47 = .ok (.bipush (-6), 2) := by decide +kernel
theorem dX6_loudest_49 : decode cX6_loudest 49 = .ok (.if_icmp .eq 10, 3) := by decide +kernel
theorem dX6_loudest_52 : decode cX6_loudest 52 = .ok (.iload 6, 2) := by decide +kernel
theorem dX6_loudest_54 : decode cX6_loudest 54 = .ok (.iload 4, 2) := by decide +kernel
theorem dX6_loudest_56 : decode cX6_loudest 56 = .ok (.if_icmp .le 10, 3) := by decide +kernel
theorem dX6_loudest_59 : decode cX6_loudest 59 = .ok (.iload 5, 2) := by decide +kernel
theorem dX6_loudest_61 : decode cX6_loudest 61 = .ok (.istore_n 3, 1) := by decide +kernel
theorem dX6_loudest_62 : decode cX6_loudest 62 = .ok (.iload 6, 2) := by decide +kernel
theorem dX6_loudest_64 : decode cX6_loudest 64 = .ok (.istore 4, 2) := by decide +kernel
theorem dX6_loudest_66 : decode cX6_loudest 66 = .ok (.iinc 5 1, 3) := by decide +kernel
theorem dX6_loudest_69 : decode cX6_loudest 69 = .ok (.goto (-38), 3) := by decide +kernel
theorem dX6_loudest_72 : decode cX6_loudest 72 = .ok (.iload_n 1, 1) := by decide +kernel
theorem dX6_loudest_73 : decode cX6_loudest 73 = .ok (.ifCond .ne 7, 3) := by decide +kernel
theorem dX6_loudest_76 : decode cX6_loudest 76 = .ok (.iload_n 3, 1) := by decide +kernel
theorem dX6_loudest_77 : decode cX6_loudest 77 = .ok (.goto 5, 3) := by decide +kernel
theorem dX6_loudest_80 : decode cX6_loudest 80 = .ok (.iload 4, 2) := by decide +kernel
theorem dX6_loudest_82 : decode cX6_loudest 82 = .ok (.ireturn, 1) := by decide +kernel
theorem dX6_playWeeks_0 : decode cX6_playWeeks 0 = .ok (.aload_n 0, 1) := by decide +kernel
theorem dX6_playWeeks_1 : decode cX6_playWeeks 1 = .ok (.getfield 25, 3) := by decide +kernel
theorem dX6_playWeeks_4 : decode cX6_playWeeks 4 = .ok (.invokevirtual 121, 3) := by decide +kernel
theorem dX6_playWeeks_7 : decode cX6_playWeeks 7 = .ok (.bipush (-6), 2) := by decide +kernel
theorem dX6_playWeeks_9 : decode cX6_playWeeks 9 = .ok (.if_icmp .eq 6, 3) := by decide +kernel
theorem dX6_playWeeks_12 : decode cX6_playWeeks 12 = .ok (.bipush (-5), 2) := by decide +kernel
theorem dX6_playWeeks_14 : decode cX6_playWeeks 14 = .ok (.ireturn, 1) := by decide +kernel
theorem dX6_playWeeks_15 : decode cX6_playWeeks 15 = .ok (.aload_n 0, 1) := by decide +kernel
theorem dX6_playWeeks_16 : decode cX6_playWeeks 16 = .ok (.getfield 39, 3) := by decide +kernel
theorem dX6_playWeeks_19 : decode cX6_playWeeks 19 = .ok (.aload_n 0, 1) := by decide +kernel
theorem dX6_playWeeks_20 : decode cX6_playWeeks 20 = .ok (.getfield 10, 3) := by decide +kernel
theorem dX6_playWeeks_23 : decode cX6_playWeeks 23 = .ok (.getfield 64, 3) := by decide +kernel
theorem dX6_playWeeks_26 : decode cX6_playWeeks 26 = .ok (.invokevirtual 166, 3) := by decide +kernel
theorem dX6_playWeeks_29 : decode cX6_playWeeks 29 = .ok (.aload_n 0, 1) := by decide +kernel
theorem dX6_playWeeks_30 : decode cX6_playWeeks 30 = .ok (.getfield 32, 3) := by decide +kernel
theorem dX6_playWeeks_33 : decode cX6_playWeeks 33 = .ok (.aload_n 0, 1) := by decide +kernel
theorem dX6_playWeeks_34 : decode cX6_playWeeks 34 = .ok (.getfield 25, 3) := by decide +kernel
theorem dX6_playWeeks_37 : decode cX6_playWeeks 37 = .ok (.aload_n 0, 1) := by decide +kernel
theorem dX6_playWeeks_38 : decode cX6_playWeeks 38 = .ok (.getfield 39, 3) := by decide +kernel
theorem dX6_playWeeks_41 : decode cX6_playWeeks 41 = .ok (.invokevirtual 173, 3) := by decide +kernel
theorem dX6_playWeeks_44 : decode cX6_playWeeks 44 = .ok (.aload_n 0, 1) := by decide +kernel
theorem dX6_playWeeks_45 : decode cX6_playWeeks 45 = .ok (.getfield 32, 3) := by decide +kernel
theorem dX6_playWeeks_48 : decode cX6_playWeeks 48 = .ok (.invokevirtual 127, 3) := by decide +kernel
theorem dX6_playWeeks_51 : decode cX6_playWeeks 51 = .ok (.bipush (-6), 2) := by decide +kernel
theorem dX6_playWeeks_53 : decode cX6_playWeeks 53 = .ok (.if_icmp .ne 7, 3) := by decide +kernel
theorem dX6_playWeeks_56 : decode cX6_playWeeks 56 = .ok (.iconst 0, 1) := by decide +kernel
theorem dX6_playWeeks_57 : decode cX6_playWeeks 57 = .ok (.goto 5, 3) := by decide +kernel
theorem dX6_playWeeks_60 : decode cX6_playWeeks 60 = .ok (.bipush (-3), 2) := by decide +kernel
theorem dX6_playWeeks_62 : decode cX6_playWeeks 62 = .ok (.ireturn, 1) := by decide +kernel
theorem dX6_sleep_0 : decode cX6_sleep 0 = .ok (.aload_n 0, 1) := by decide +kernel
theorem dX6_sleep_1 : decode cX6_sleep 1 = .ok (.iload_n 1, 1) := by decide +kernel
theorem dX6_sleep_2 : decode cX6_sleep 2 = .ok (.iload_n 2, 1) := by decide +kernel
theorem dX6_sleep_3 : decode cX6_sleep 3 = .ok (.iload_n 3, 1) := by decide +kernel
theorem dX6_sleep_4 : decode cX6_sleep 4 = .ok (.invokevirtual 177, 3) := by decide +kernel
theorem dX6_sleep_7 : decode cX6_sleep 7 = .ok (.istore 4, 2) := by decide +kernel
theorem dX6_sleep_9 : decode cX6_sleep 9 = .ok (.iload 4, 2) := by decide +kernel
theorem dX6_sleep_11 : decode cX6_sleep 11 = .ok (.ifCond .eq 8, 3) := by decide +kernel
theorem dX6_sleep_14 : decode cX6_sleep 14 = .ok (.iload 4, 2) := by decide +kernel
theorem dX6_sleep_16 : decode cX6_sleep 16 = .ok (.goto 11, 3) := by decide +kernel
theorem dX6_sleep_19 : decode cX6_sleep 19 = .ok (.aload_n 0, 1) := by decide +kernel
theorem dX6_sleep_20 : decode cX6_sleep 20 = .ok (.iload_n 1, 1) := by decide +kernel
theorem dX6_sleep_21 : decode cX6_sleep 21 = .ok (.iload_n 2, 1) := by decide +kernel
theorem dX6_sleep_22 : decode cX6_sleep 22 = .ok (.iload_n 3, 1) := by decide +kernel
theorem dX6_sleep_23 : decode cX6_sleep 23 = .ok (.iconst 0, 1) := by decide +kernel
theorem dX6_sleep_24 : decode cX6_sleep 24 = .ok (.invokevirtual 181, 3) := by decide +kernel
theorem dX6_sleep_27 : decode cX6_sleep 27 = .ok (.ireturn, 1) := by decide +kernel
theorem dX6_hide_0 : decode cX6_hide 0 = .ok (.aload_n 0, 1) := by decide +kernel
theorem dX6_hide_1 : decode cX6_hide 1 = .ok (.iload_n 1, 1) := by decide +kernel
theorem dX6_hide_2 : decode cX6_hide 2 = .ok (.iload_n 2, 1) := by decide +kernel
theorem dX6_hide_3 : decode cX6_hide 3 = .ok (.iload_n 3, 1) := by decide +kernel
theorem dX6_hide_4 : decode cX6_hide 4 = .ok (.invokevirtual 177, 3) := by decide +kernel
theorem dX6_hide_7 : decode cX6_hide 7 = .ok (.istore 4, 2) := by decide +kernel
theorem dX6_hide_9 : decode cX6_hide 9 = .ok (.iload 4, 2) := by decide +kernel
theorem dX6_hide_11 : decode cX6_hide 11 = .ok (.ifCond .eq 8, 3) := by decide +kernel
theorem dX6_hide_14 : decode cX6_hide 14 = .ok (.iload 4, 2) := by decide +kernel
theorem dX6_hide_16 : decode cX6_hide 16 = .ok (.goto 11, 3) := by decide +kernel
theorem dX6_hide_19 : decode cX6_hide 19 = .ok (.aload_n 0, 1) := by decide +kernel
theorem dX6_hide_20 : decode cX6_hide 20 = .ok (.iload_n 1, 1) := by decide +kernel
theorem dX6_hide_21 : decode cX6_hide 21 = .ok (.iload_n 2, 1) := by decide +kernel
theorem dX6_hide_22 : decode cX6_hide 22 = .ok (.iload_n 3, 1) := by decide +kernel
theorem dX6_hide_23 : decode cX6_hide 23 = .ok (.iconst 1, 1) := by decide +kernel
theorem dX6_hide_24 : decode cX6_hide 24 = .ok (.invokevirtual 181, 3) := by decide +kernel
theorem dX6_hide_27 : decode cX6_hide 27 = .ok (.ireturn, 1) := by decide +kernel
theorem dX6_tale_0 : decode cX6_tale 0 = .ok (.aload_n 0, 1) := by decide +kernel
theorem dX6_tale_1 : decode cX6_tale 1 = .ok (.getfield 10, 3) := by decide +kernel
theorem dX6_tale_4 : decode cX6_tale 4 = .ok (.getfield 64, 3) := by decide +kernel
theorem dX6_tale_7 : decode cX6_tale 7 = .ok (.iload_n 1, 1) := by decide +kernel
theorem dX6_tale_8 : decode cX6_tale 8 = .ok (.invokevirtual 85, 3) := by decide +kernel
theorem dX6_tale_11 : decode cX6_tale 11 = .ok (.ifCond .ne 5, 3) := by decide +kernel
theorem dX6_tale_14 : decode cX6_tale 14 = .ok (.iconst (-1), 1) := by decide +kernel
theorem dX6_tale_15 : decode cX6_tale 15 = .ok (.ireturn, 1) := by decide +kernel
theorem dX6_tale_16 : decode cX6_tale 16 = .ok (.iload_n 2, 1) := by decide +kernel
theorem dX6_tale_17 : decode cX6_tale 17 = .ok (.invokestatic 56, 3) := by decide +kernel
theorem dX6_tale_20 : decode cX6_tale 20 = .ok (.ifCond .ne 6, 3) := by decide +kernel
theorem dX6_tale_23 : decode cX6_tale 23 = .ok (.bipush (-2), 2) := by decide +kernel
theorem dX6_tale_25 : decode cX6_tale 25 = .ok (.ireturn, 1) := by decide +kernel
theorem dX6_tale_26 : decode cX6_tale 26 = .ok (.aload_n 0, 1) := by decide +kernel
theorem dX6_tale_27 : decode cX6_tale 27 = .ok (.getfield 10, 3) := by decide +kernel
theorem dX6_tale_30 : decode cX6_tale 30 = .ok (.getfield 185, 3) := by decide +kernel
theorem dX6_tale_33 : decode cX6_tale 33 = .ok (.iload_n 1, 1) := by decide +kernel
theorem dX6_tale_34 : decode cX6_tale 34 = .ok (.iload_n 2, 1) := by decide +kernel
theorem dX6_tale_35 : decode cX6_tale 35 = .ok (.iload_n 3, 1) := by decide +kernel
theorem dX6_tale_36 : decode cX6_tale 36 = .ok (.invokevirtual 189, 3) := by decide +kernel
theorem dX6_tale_39 : decode cX6_tale 39 = .ok (.ifCond .eq 16, 3) := by decide +kernel
theorem dX6_tale_42 : decode cX6_tale 42 = .ok (.aload_n 0, 1) := by decide +kernel
theorem dX6_tale_43 : decode cX6_tale 43 = .ok (.getfield 10, 3) := by decide +kernel
theorem dX6_tale_46 : decode cX6_tale 46 = .ok (.getfield 185, 3) := by decide +kernel
theorem dX6_tale_49 : decode cX6_tale 49 = .ok (.invokevirtual 194, 3) := by decide +kernel
theorem dX6_tale_52 : decode cX6_tale 52 = .ok (.goto 5, 3) := by decide +kernel
theorem dX6_tale_55 : decode cX6_tale 55 = .ok (.bipush (-4), 2) := by decide +kernel
theorem dX6_tale_57 : decode cX6_tale 57 = .ok (.ireturn, 1) := by decide +kernel
theorem dX6_hush_0 : decode cX6_hush 0 = .ok (.aload_n 0, 1) := by decide +kernel
theorem dX6_hush_1 : decode cX6_hush 1 = .ok (.getfield 10, 3) := by decide +kernel
theorem dX6_hush_4 : decode cX6_hush 4 = .ok (.getfield 185, 3) := by decide +kernel
theorem dX6_hush_7 : decode cX6_hush 7 = .ok (.invokevirtual 194, 3) := by decide +kernel
theorem dX6_hush_10 : decode cX6_hush 10 = .ok (.istore_n 1, 1) := by decide +kernel
theorem dX6_hush_11 : decode cX6_hush 11 = .ok (.aload_n 0, 1) := by decide +kernel
theorem dX6_hush_12 : decode cX6_hush 12 = .ok (.getfield 10, 3) := by decide +kernel
theorem dX6_hush_15 : decode cX6_hush 15 = .ok (.getfield 185, 3) := by decide +kernel
theorem dX6_hush_18 : decode cX6_hush 18 = .ok (.invokevirtual 195, 3) := by decide +kernel
theorem dX6_hush_21 : decode cX6_hush 21 = .ok (.iload_n 1, 1) := by decide +kernel
theorem dX6_hush_22 : decode cX6_hush 22 = .ok (.ireturn, 1) := by decide +kernel
theorem dX6_liars_0 : decode cX6_liars 0 = .ok (.iload_n 1, 1) := by decide +kernel
theorem dX6_liars_1 : decode cX6_liars 1 = .ok (.invokestatic 157, 3) := by decide +kernel
theorem dX6_liars_4 : decode cX6_liars 4 = .ok (.ifCond .ne 6, 3) := by decide +kernel
theorem dX6_liars_7 : decode cX6_liars 7 = .ok (.bipush (-2), 2) := by decide +kernel
theorem dX6_liars_9 : decode cX6_liars 9 = .ok (.ireturn, 1) := by decide +kernel
theorem dX6_liars_10 : decode cX6_liars 10 = .ok (.aload_n 0, 1) := by decide +kernel
theorem dX6_liars_11 : decode cX6_liars 11 = .ok (.getfield 10, 3) := by decide +kernel
theorem dX6_liars_14 : decode cX6_liars 14 = .ok (.getfield 185, 3) := by decide +kernel
theorem dX6_liars_17 : decode cX6_liars 17 = .ok (.invokevirtual 196, 3) := by decide +kernel
theorem dX6_liars_20 : decode cX6_liars 20 = .ok (.istore_n 2, 1) := by decide +kernel
theorem dX6_liars_21 : decode cX6_liars 21 = .ok (.iload_n 2, 1) := by decide +kernel
theorem dX6_liars_22 : decode cX6_liars 22 = .ok (.bipush (-6), 2) := by decide +kernel
theorem dX6_liars_24 : decode cX6_liars 24 = .ok (.if_icmp .ne 6, 3) := by decide +kernel
theorem dX6_liars_27 : decode cX6_liars 27 = .ok (.bipush (-6), 2) := by decide +kernel
theorem dX6_liars_29 : decode cX6_liars 29 = .ok (.ireturn, 1) := by decide +kernel
theorem dX6_liars_30 : decode cX6_liars 30 = .ok (.iload_n 1, 1) := by decide +kernel
theorem dX6_liars_31 : decode cX6_liars 31 = .ok (.ifCond .ne 10, 3) := by decide +kernel
theorem dX6_liars_34 : decode cX6_liars 34 = .ok (.iload_n 2, 1) := by decide +kernel
theorem dX6_liars_35 : decode cX6_liars 35 = .ok (.invokestatic 199, 3) := by decide +kernel
theorem dX6_liars_38 : decode cX6_liars 38 = .ok (.goto 4, 3) := by decide +kernel
theorem dX6_liars_41 : decode cX6_liars 41 = .ok (.iload_n 2, 1) := by decide +kernel
theorem dX6_liars_42 : decode cX6_liars 42 = .ok (.ireturn, 1) := by decide +kernel
theorem dX6_leaves_0 : decode cX6_leaves 0 = .ok (.iload_n 1, 1) := by decide +kernel
theorem dX6_leaves_1 : decode cX6_leaves 1 = .ok (.iconst 0, 1) := by decide +kernel
theorem dX6_leaves_2 : decode cX6_leaves 2 = .ok (.ldc 203, 2) := by decide +kernel
theorem dX6_leaves_4 : decode cX6_leaves 4 = .ok (.invokestatic 60, 3) := by decide +kernel
theorem dX6_leaves_7 : decode cX6_leaves 7 = .ok (.ifCond .ne 6, 3) := by decide +kernel
theorem dX6_leaves_10 : decode cX6_leaves 10 = .ok (.bipush (-2), 2) := by decide +kernel
theorem dX6_leaves_12 : decode cX6_leaves 12 = .ok (.ireturn, 1) := by decide +kernel
theorem dX6_leaves_13 : decode cX6_leaves 13 = .ok (.aload_n 0, 1) := by decide +kernel
theorem dX6_leaves_14 : decode cX6_leaves 14 = .ok (.iload_n 1, 1) := by decide +kernel
theorem dX6_leaves_15 : decode cX6_leaves 15 = .ok (.invokevirtual 204, 3) := by decide +kernel
theorem dX6_leaves_18 : decode cX6_leaves 18 = .ok (.aload_n 0, 1) := by decide +kernel
theorem dX6_leaves_19 : decode cX6_leaves 19 = .ok (.invokevirtual 207, 3) := by decide +kernel
theorem dX6_leaves_22 : decode cX6_leaves 22 = .ok (.ifCond .ne 6, 3) := by decide +kernel
theorem dX6_leaves_25 : decode cX6_leaves 25 = .ok (.bipush (-2), 2) := by decide +kernel
theorem dX6_leaves_27 : decode cX6_leaves 27 = .ok (.ireturn, 1) := by decide +kernel
theorem dX6_leaves_28 : decode cX6_leaves 28 = .ok (.iconst 0, 1) := by decide +kernel
theorem dX6_leaves_29 : decode cX6_leaves 29 = .ok (.istore_n 2, 1) := by decide +kernel
theorem dX6_leaves_30 : decode cX6_leaves 30 = .ok (.iload_n 2, 1) := by decide +kernel
theorem dX6_leaves_31 : decode cX6_leaves 31 = .ok (.bipush 6, 2) := by decide +kernel
theorem dX6_leaves_33 : decode cX6_leaves 33 = .ok (.if_icmp .ge 39, 3) := by decide +kernel
theorem dX6_leaves_36 : decode cX6_leaves 36 = .ok (.iload_n 2, 1) := by decide +kernel
theorem dX6_leaves_37 : decode cX6_leaves 37 = .ok (.istore_n 3, 1) := by decide +kernel
theorem dX6_leaves_38 : decode cX6_leaves 38 = .ok (.iload_n 3, 1) := by decide +kernel
theorem dX6_leaves_39 : decode cX6_leaves 39 = .ok (.bipush 6, 2) := by decide +kernel
theorem dX6_leaves_41 : decode cX6_leaves 41 = .ok (.if_icmp .ge 25, 3) := by decide +kernel
theorem dX6_leaves_44 : decode cX6_leaves 44 = .ok (.aload_n 0, 1) := by decide +kernel
theorem dX6_leaves_45 : decode cX6_leaves 45 = .ok (.iload_n 2, 1) := by decide +kernel
theorem dX6_leaves_46 : decode cX6_leaves 46 = .ok (.iload_n 3, 1) := by decide +kernel
theorem dX6_leaves_47 : decode cX6_leaves 47 = .ok (.invokevirtual 211, 3) := by decide +kernel
theorem dX6_leaves_50 : decode cX6_leaves 50 = .ok (.ifCond .eq 10, 3) := by decide +kernel
theorem dX6_leaves_53 : decode cX6_leaves 53 = .ok (.bipush 10, 2) := by decide +kernel
theorem dX6_leaves_55 : decode cX6_leaves 55 = .ok (.iload_n 2, 1) := by decide +kernel
theorem dX6_leaves_56 : decode cX6_leaves 56 = .ok (.imul, 1) := by decide +kernel
theorem dX6_leaves_57 : decode cX6_leaves 57 = .ok (.iload_n 3, 1) := by decide +kernel
theorem dX6_leaves_58 : decode cX6_leaves 58 = .ok (.iadd, 1) := by decide +kernel
theorem dX6_leaves_59 : decode cX6_leaves 59 = .ok (.ireturn, 1) := by decide +kernel
theorem dX6_leaves_60 : decode cX6_leaves 60 = .ok (.iinc 3 1, 3) := by decide +kernel
theorem dX6_leaves_63 : decode cX6_leaves 63 = .ok (.goto (-25), 3) := by decide +kernel
theorem dX6_leaves_66 : decode cX6_leaves 66 = .ok (.iinc 2 1, 3) := by decide +kernel
theorem dX6_leaves_69 : decode cX6_leaves 69 = .ok (.goto (-39), 3) := by decide +kernel
theorem dX6_leaves_72 : decode cX6_leaves 72 = .ok (.bipush (-6), 2) := by decide +kernel
theorem dX6_leaves_74 : decode cX6_leaves 74 = .ok (.ireturn, 1) := by decide +kernel
theorem dX6_refusalOfSteps_0 : decode cX6_refusalOfSteps 0 = .ok (.aload_n 0, 1) := by decide +kernel
theorem dX6_refusalOfSteps_1 : decode cX6_refusalOfSteps 1 = .ok (.getfield 10, 3) := by decide +kernel
theorem dX6_refusalOfSteps_4 : decode cX6_refusalOfSteps 4 = .ok (.getfield 64, 3) := by decide +kernel
theorem dX6_refusalOfSteps_7 : decode cX6_refusalOfSteps 7 = .ok (.iload_n 1, 1) := by decide +kernel
theorem dX6_refusalOfSteps_8 : decode cX6_refusalOfSteps 8 = .ok (.invokevirtual 85, 3) := by decide +kernel
theorem dX6_refusalOfSteps_11 : decode cX6_refusalOfSteps 11 = .ok (.ifCond .ne 5, 3) := by decide +kernel
theorem dX6_refusalOfSteps_14 : decode cX6_refusalOfSteps 14 = .ok (.iconst (-1), 1) := by decide +kernel
theorem dX6_refusalOfSteps_15 : decode cX6_refusalOfSteps 15 = .ok (.ireturn, 1) := by decide +kernel
theorem dX6_refusalOfSteps_16 : decode cX6_refusalOfSteps 16 = .ok (.iload_n 2, 1) := by decide +kernel
theorem dX6_refusalOfSteps_17 : decode cX6_refusalOfSteps 17 = .ok (.iconst 0, 1) := by decide +kernel
theorem dX6_refusalOfSteps_18 : decode cX6_refusalOfSteps 18 = .ok (.bipush 14, 2) := by decide +kernel
theorem dX6_refusalOfSteps_20 : decode cX6_refusalOfSteps 20 = .ok (.invokestatic 60, 3) := by decide +kernel
theorem dX6_refusalOfSteps_23 : decode cX6_refusalOfSteps 23 = .ok (.ifCond .eq 14, 3) := by decide +kernel
theorem dX6_refusalOfSteps_26 : decode cX6_refusalOfSteps 26 = .ok (.iload_n 3, 1) := by decide +kernel
theorem dX6_refusalOfSteps_27 : decode cX6_refusalOfSteps 27 = .ok (.invokestatic 157, 3) := by decide +kernel
theorem dX6_refusalOfSteps_30 : decode cX6_refusalOfSteps 30 = .ok (.ifCond .eq 7, 3) := by decide +kernel
theorem dX6_refusalOfSteps_33 : decode cX6_refusalOfSteps 33 = .ok (.iconst 0, 1) := by decide +kernel
theorem dX6_refusalOfSteps_34 : decode cX6_refusalOfSteps 34 = .ok (.goto 5, 3) := by decide +kernel
theorem dX6_refusalOfSteps_37 : decode cX6_refusalOfSteps 37 = .ok (.bipush (-2), 2) := by decide +kernel
theorem dX6_refusalOfSteps_39 : decode cX6_refusalOfSteps 39 = .ok (.ireturn, 1) := by decide +kernel
theorem dX6_quietest_0 : decode cX6_quietest 0 = .ok (.aload_n 0, 1) := by decide +kernel
theorem dX6_quietest_1 : decode cX6_quietest 1 = .ok (.getfield 10, 3) := by decide +kernel
theorem dX6_quietest_4 : decode cX6_quietest 4 = .ok (.getfield 64, 3) := by decide +kernel
theorem dX6_quietest_7 : decode cX6_quietest 7 = .ok (.astore 5, 2) := by decide +kernel
theorem dX6_quietest_9 : decode cX6_quietest 9 = .ok (.aload 5, 2) := by decide +kernel
theorem dX6_quietest_11 : decode cX6_quietest 11 = .ok (.invokevirtual 148, 3) := by decide +kernel
theorem dX6_quietest_14 : decode cX6_quietest 14 = .ok (.aload 5, 2) := by decide +kernel
theorem dX6_quietest_16 : decode cX6_quietest 16 = .ok (.iload_n 1, 1) := by decide +kernel
theorem dX6_quietest_17 : decode cX6_quietest 17 = .ok (.invokevirtual 136, 3) := by decide +kernel
theorem dX6_quietest_20 : decode cX6_quietest 20 = .ok (.istore 6, 2) := by decide +kernel
theorem dX6_quietest_22 : decode cX6_quietest 22 = .ok (.bipush (-6), 2) := by decide +kernel
theorem dX6_quietest_24 : decode cX6_quietest 24 = .ok (.istore 7, 2) := by decide +kernel
theorem dX6_quietest_26 : decode cX6_quietest 26 = .ok (.iconst 0, 1) := by decide +kernel
theorem dX6_quietest_27 : decode cX6_quietest 27 = .ok (.istore 8, 2) := by decide +kernel
theorem dX6_quietest_29 : decode cX6_quietest 29 = .ok (.iconst 0, 1) := by decide +kernel
theorem dX6_quietest_30 : decode cX6_quietest 30 = .ok (.istore 9, 2) := by decide +kernel
theorem dX6_quietest_32 : decode cX6_quietest 32 = .ok (.iload 9, 2) := by decide +kernel
theorem dX6_quietest_34 : decode cX6_quietest 34 = .ok (.bipush 64, 2) := by decide +kernel
theorem dX6_quietest_36 : decode cX6_quietest 36 = .ok (.if_icmp .ge 68, 3) := by decide +kernel
theorem dX6_quietest_39 : decode cX6_quietest 39 = .ok (.iload 6, 2) := by decide +kernel
theorem dX6_quietest_41 : decode cX6_quietest 41 = .ok (.iload 9, 2) := by decide +kernel
theorem dX6_quietest_43 : decode cX6_quietest 43 = .ok (.invokestatic 215, 3) := by decide +kernel
theorem dX6_quietest_46 : decode cX6_quietest 46 = .ok (.iload_n 2, 1) := by decide +kernel
theorem dX6_quietest_47 : decode cX6_quietest 47 = .ok (.if_icmp .gt 51, 3) := by decide +kernel
theorem dX6_quietest_50 : decode cX6_quietest 50 = .ok (.iload 4, 2) := by decide +kernel
theorem dX6_quietest_52 : decode cX6_quietest 52 = .ok (.ifCond .eq 14, 3) := by decide +kernel
theorem dX6_quietest_55 : decode cX6_quietest 55 = .ok (.aload 5, 2) := by decide +kernel
theorem dX6_quietest_57 : decode cX6_quietest 57 = .ok (.iload_n 1, 1) := by decide +kernel
theorem dX6_quietest_58 : decode cX6_quietest 58 = .ok (.iload 9, 2) := by decide +kernel
theorem dX6_quietest_60 : decode cX6_quietest 60 = .ok (.invokevirtual 219, 3) := by decide +kernel
theorem dX6_quietest_63 : decode cX6_quietest 63 = .ok (.goto 11, 3) := by decide +kernel
theorem dX6_quietest_66 : decode cX6_quietest 66 = .ok (.aload 5, 2) := by decide +kernel
theorem dX6_quietest_68 : decode cX6_quietest 68 = .ok (.iload_n 1, 1) := by decide +kernel
theorem dX6_quietest_69 : decode cX6_quietest 69 = .ok (.iload 9, 2) := by decide +kernel
theorem dX6_quietest_71 : decode cX6_quietest 71 = .ok (.invokevirtual 222, 3) := by decide +kernel
theorem dX6_quietest_74 : decode cX6_quietest 74 = .ok (.istore 10, 2) := by decide +kernel
theorem dX6_quietest_76 : decode cX6_quietest 76 = .ok (.iload 7, 2) := by decide +kernel
theorem dX6_quietest_78 : decode cX6_quietest 78 = .ok (.bipush (-6), 2) := by decide +kernel
theorem dX6_quietest_80 : decode cX6_quietest 80 = .ok (.if_icmp .eq 10, 3) := by decide +kernel
theorem dX6_quietest_83 : decode cX6_quietest 83 = .ok (.iload 10, 2) := by decide +kernel
theorem dX6_quietest_85 : decode cX6_quietest 85 = .ok (.iload 8, 2) := by decide +kernel
theorem dX6_quietest_87 : decode cX6_quietest 87 = .ok (.if_icmp .ge 11, 3) := by decide +kernel
theorem dX6_quietest_90 : decode cX6_quietest 90 = .ok (.iload 9, 2) := by decide +kernel
theorem dX6_quietest_92 : decode cX6_quietest 92 = .ok (.istore 7, 2) := by decide +kernel
theorem dX6_quietest_94 : decode cX6_quietest 94 = .ok (.iload 10, 2) := by decide +kernel
theorem dX6_quietest_96 : decode cX6_quietest 96 = .ok (.istore 8, 2) := by decide +kernel
theorem dX6_quietest_98 : decode cX6_quietest 98 = .ok (.iinc 9 1, 3) := by decide +kernel
theorem dX6_quietest_101 : decode cX6_quietest 101 = .ok (.goto (-69), 3) := by decide +kernel
theorem dX6_quietest_104 : decode cX6_quietest 104 = .ok (.iload_n 3, 1) := by decide +kernel
theorem dX6_quietest_105 : decode cX6_quietest 105 = .ok (.ifCond .ne 8, 3) := by decide +kernel
theorem dX6_quietest_108 : decode cX6_quietest 108 = .ok (.iload 7, 2) := by decide +kernel
theorem dX6_quietest_110 : decode cX6_quietest 110 = .ok (.goto 5, 3) := by decide +kernel
theorem dX6_quietest_113 : decode cX6_quietest 113 = .ok (.iload 8, 2) := by decide +kernel
theorem dX6_quietest_115 : decode cX6_quietest 115 = .ok (.ireturn, 1) := by decide +kernel
theorem dX6_readDigits_0 : decode cX6_readDigits 0 = .ok (.iload_n 1, 1) := by decide +kernel
theorem dX6_readDigits_1 : decode cX6_readDigits 1 = .ok (.istore_n 2, 1) := by decide +kernel
theorem dX6_readDigits_2 : decode cX6_readDigits 2 = .ok (.aload_n 0, 1) := by decide +kernel
theorem dX6_readDigits_3 : decode cX6_readDigits 3 = .ok (.getfield 43, 3) := by decide +kernel
theorem dX6_readDigits_6 : decode cX6_readDigits 6 = .ok (.arraylength, 1) := by decide +kernel
theorem dX6_readDigits_7 : decode cX6_readDigits 7 = .ok (.iconst 1, 1) := by decide +kernel
theorem dX6_readDigits_8 : decode cX6_readDigits 8 = .ok (.isub, 1) := by decide +kernel
theorem dX6_readDigits_9 : decode cX6_readDigits 9 = .ok (.istore_n 3, 1) := by decide +kernel
theorem dX6_readDigits_10 : decode cX6_readDigits 10 = .ok (.iload_n 3, 1) := by decide +kernel
theorem dX6_readDigits_11 : decode cX6_readDigits 11 = .ok (.ifCond .lt 24, 3) := by decide +kernel
theorem dX6_readDigits_14 : decode cX6_readDigits 14 = .ok (.aload_n 0, 1) := by decide +kernel
theorem dX6_readDigits_15 : decode cX6_readDigits 15 = .ok (.getfield 43, 3) := by decide +kernel
theorem dX6_readDigits_18 : decode cX6_readDigits 18 = .ok (.iload_n 3, 1) := by decide +kernel
theorem dX6_readDigits_19 : decode cX6_readDigits 19 = .ok (.iload_n 2, 1) := by decide +kernel
theorem dX6_readDigits_20 : decode cX6_readDigits 20 = .ok (.bipush 10, 2) := by decide +kernel
theorem dX6_readDigits_22 : decode cX6_readDigits 22 = .ok (.irem, 1) := by decide +kernel
theorem dX6_readDigits_23 : decode cX6_readDigits 23 = .ok (.iastore, 1) := by decide +kernel
theorem dX6_readDigits_24 : decode cX6_readDigits 24 = .ok (.iload_n 2, 1) := by decide +kernel
theorem dX6_readDigits_25 : decode cX6_readDigits 25 = .ok (.bipush 10, 2) := by decide +kernel
theorem dX6_readDigits_27 : decode cX6_readDigits 27 = .ok (.idiv, 1) := by decide +kernel
theorem dX6_readDigits_28 : decode cX6_readDigits 28 = .ok (.istore_n 2, 1) := by decide +kernel
theorem dX6_readDigits_29 : decode cX6_readDigits 29 = .ok (.iinc 3 (-1), 3) := by decide +kernel
theorem dX6_readDigits_32 : decode cX6_readDigits 32 = .ok (.goto (-22), 3) := by decide +kernel
theorem dX6_readDigits_35 : decode cX6_readDigits 35 = .ok (.return_, 1) := by decide +kernel
theorem dX6_digitAt_0 : decode cX6_digitAt 0 = .ok (.iload_n 1, 1) := by decide +kernel
theorem dX6_digitAt_1 : decode cX6_digitAt 1 = .ok (.ifCond .lt 21, 3) := by decide +kernel
theorem dX6_digitAt_4 : decode cX6_digitAt 4 = .ok (.iload_n 1, 1) := by decide +kernel
theorem dX6_digitAt_5 : decode cX6_digitAt 5 = .ok (.aload_n 0, 1) := by decide +kernel
theorem dX6_digitAt_6 : decode cX6_digitAt 6 = .ok (.getfield 43, 3) := by decide +kernel
theorem dX6_digitAt_9 : decode cX6_digitAt 9 = .ok (.arraylength, 1) := by decide +kernel
theorem dX6_digitAt_10 : decode cX6_digitAt 10 = .ok (.if_icmp .ge 12, 3) := by decide +kernel
theorem dX6_digitAt_13 : decode cX6_digitAt 13 = .ok (.aload_n 0, 1) := by decide +kernel
theorem dX6_digitAt_14 : decode cX6_digitAt 14 = .ok (.getfield 43, 3) := by decide +kernel
theorem dX6_digitAt_17 : decode cX6_digitAt 17 = .ok (.iload_n 1, 1) := by decide +kernel
theorem dX6_digitAt_18 : decode cX6_digitAt 18 = .ok (.iaload, 1) := by decide +kernel
theorem dX6_digitAt_19 : decode cX6_digitAt 19 = .ok (.goto 4, 3) := by decide +kernel
theorem dX6_digitAt_22 : decode cX6_digitAt 22 = .ok (.iconst 0, 1) := by decide +kernel
theorem dX6_digitAt_23 : decode cX6_digitAt 23 = .ok (.ireturn, 1) := by decide +kernel
theorem dX6_digitsAreTwos_0 : decode cX6_digitsAreTwos 0 = .ok (.iconst 0, 1) := by decide +kernel
theorem dX6_digitsAreTwos_1 : decode cX6_digitsAreTwos 1 = .ok (.istore_n 1, 1) := by decide +kernel
theorem dX6_digitsAreTwos_2 : decode cX6_digitsAreTwos 2 = .ok (.iload_n 1, 1) := by decide +kernel
theorem dX6_digitsAreTwos_3 : decode cX6_digitsAreTwos 3 = .ok (.bipush 6, 2) := by decide +kernel
theorem dX6_digitsAreTwos_5 : decode cX6_digitsAreTwos 5 = .ok (.if_icmp .ge 54, 3) := by decide +kernel
theorem dX6_digitsAreTwos_8 : decode cX6_digitsAreTwos 8 = .ok (.aload_n 0, 1) := by decide +kernel
theorem dX6_digitsAreTwos_9 : decode cX6_digitsAreTwos 9 = .ok (.iload_n 1, 1) := by decide +kernel
theorem dX6_digitsAreTwos_10 : decode cX6_digitsAreTwos 10 = .ok (.invokevirtual 225, 3) := by decide +kernel
theorem dX6_digitsAreTwos_13 : decode cX6_digitsAreTwos 13 = .ok (.istore_n 2, 1) := by decide +kernel
theorem dX6_digitsAreTwos_14 : decode cX6_digitsAreTwos 14 = .ok (.iload_n 2, 1) := by decide +kernel
theorem dX6_digitsAreTwos_15 : decode cX6_digitsAreTwos 15 = .ok (.invokestatic 75, 3) := by decide +kernel
theorem dX6_digitsAreTwos_18 : decode cX6_digitsAreTwos 18 = .ok (.ifCond .eq 12, 3) := by decide +kernel
theorem dX6_digitsAreTwos_21 : decode cX6_digitsAreTwos 21 = .ok (.aload_n 0, 1) := by decide +kernel
theorem dX6_digitsAreTwos_22 : decode cX6_digitsAreTwos 22 = .ok (.iload_n 2, 1) := by decide +kernel
theorem dX6_digitsAreTwos_23 : decode cX6_digitsAreTwos 23 = .ok (.invokevirtual 225, 3) := by decide +kernel
theorem dX6_digitsAreTwos_26 : decode cX6_digitsAreTwos 26 = .ok (.iload_n 1, 1) := by decide +kernel
theorem dX6_digitsAreTwos_27 : decode cX6_digitsAreTwos 27 = .ok (.if_icmp .eq 5, 3) := by decide +kernel
theorem dX6_digitsAreTwos_30 : decode cX6_digitsAreTwos 30 = .ok (.iconst 0, 1) := by decide +kernel
theorem dX6_digitsAreTwos_31 : decode cX6_digitsAreTwos 31 = .ok (.ireturn, 1) := by decide +kernel
theorem dX6_digitsAreTwos_32 : decode cX6_digitsAreTwos 32 = .ok (.iload_n 2, 1) := by decide +kernel
theorem dX6_digitsAreTwos_33 : decode cX6_digitsAreTwos 33 = .ok (.iload_n 1, 1) := by decide +kernel
theorem dX6_digitsAreTwos_34 : decode cX6_digitsAreTwos 34 = .ok (.if_icmp .eq 19, 3) := by decide +kernel
theorem dX6_digitsAreTwos_37 : decode cX6_digitsAreTwos 37 = .ok (.aload_n 0, 1) := by decide +kernel
theorem dX6_digitsAreTwos_38 : decode cX6_digitsAreTwos 38 = .ok (.getfield 10, 3) := by decide +kernel
theorem dX6_digitsAreTwos_41 : decode cX6_digitsAreTwos 41 = .ok (.getfield 64, 3) := by decide +kernel
theorem dX6_digitsAreTwos_44 : decode cX6_digitsAreTwos 44 = .ok (.iload_n 1, 1) := by decide +kernel
theorem dX6_digitsAreTwos_45 : decode cX6_digitsAreTwos 45 = .ok (.invokevirtual 85, 3) := by decide +kernel
theorem dX6_digitsAreTwos_48 : decode cX6_digitsAreTwos 48 = .ok (.ifCond .ne 5, 3) := by decide +kernel
theorem dX6_digitsAreTwos_51 : decode cX6_digitsAreTwos 51 = .ok (.iconst 0, 1) := by decide +kernel
theorem dX6_digitsAreTwos_52 : decode cX6_digitsAreTwos 52 = .ok (.ireturn, 1) := by decide +kernel
theorem dX6_digitsAreTwos_53 : decode cX6_digitsAreTwos 53 = .ok (.iinc 1 1, 3) := by decide +kernel
theorem dX6_digitsAreTwos_56 : decode cX6_digitsAreTwos 56 = .ok (.goto (-54), 3) := by decide +kernel
theorem dX6_digitsAreTwos_59 : decode cX6_digitsAreTwos 59 = .ok (.iconst 1, 1) := by decide +kernel
theorem dX6_digitsAreTwos_60 : decode cX6_digitsAreTwos 60 = .ok (.ireturn, 1) := by decide +kernel
theorem dX6_wouldRatherShare_0 : decode cX6_wouldRatherShare 0 = .ok (.aload_n 0, 1) := by decide +kernel
theorem dX6_wouldRatherShare_1 : decode cX6_wouldRatherShare 1 = .ok (.getfield 10, 3) := by decide +kernel
theorem dX6_wouldRatherShare_4 : decode cX6_wouldRatherShare 4 = .ok (.getfield 64, 3) := by decide +kernel
theorem dX6_wouldRatherShare_7 : decode cX6_wouldRatherShare 7 = .ok (.astore_n 3, 1) := by decide +kernel
theorem dX6_wouldRatherShare_8 : decode cX6_wouldRatherShare 8 = .ok (.aload_n 0, 1) := by decide +kernel
theorem dX6_wouldRatherShare_9 : decode cX6_wouldRatherShare 9 = .ok (.iload_n 1, 1) := by decide +kernel
theorem dX6_wouldRatherShare_10 : decode cX6_wouldRatherShare 10 = .ok (.invokevirtual 225, 3) := by decide +kernel
theorem dX6_wouldRatherShare_13 : decode cX6_wouldRatherShare 13 = .ok (.istore 4, 2) := by decide +kernel
theorem dX6_wouldRatherShare_15 : decode cX6_wouldRatherShare 15 = .ok (.aload_n 3, 1) := by decide +kernel
theorem dX6_wouldRatherShare_16 : decode cX6_wouldRatherShare 16 = .ok (.iload_n 1, 1) := by decide +kernel
theorem dX6_wouldRatherShare_17 : decode cX6_wouldRatherShare 17 = .ok (.invokevirtual 85, 3) := by decide +kernel
theorem dX6_wouldRatherShare_20 : decode cX6_wouldRatherShare 20 = .ok (.ifCond .eq 17, 3) := by decide +kernel
theorem dX6_wouldRatherShare_23 : decode cX6_wouldRatherShare 23 = .ok (.aload_n 3, 1) := by decide +kernel
theorem dX6_wouldRatherShare_24 : decode cX6_wouldRatherShare 24 = .ok (.iload_n 2, 1) := by decide +kernel
theorem dX6_wouldRatherShare_25 : decode cX6_wouldRatherShare 25 = .ok (.invokevirtual 85, 3) := by decide +kernel
theorem dX6_wouldRatherShare_28 : decode cX6_wouldRatherShare 28 = .ok (.ifCond .eq 9, 3) := by decide +kernel
theorem dX6_wouldRatherShare_31 : decode cX6_wouldRatherShare 31 = .ok (.iload 4, 2) := by decide +kernel
theorem dX6_wouldRatherShare_33 : decode cX6_wouldRatherShare 33 = .ok (.iload_n 2, 1) := by decide +kernel
theorem dX6_wouldRatherShare_34 : decode cX6_wouldRatherShare 34 = .ok (.if_icmp .ne 5, 3) := by decide +kernel
theorem dX6_wouldRatherShare_37 : decode cX6_wouldRatherShare 37 = .ok (.iconst 0, 1) := by decide +kernel
theorem dX6_wouldRatherShare_38 : decode cX6_wouldRatherShare 38 = .ok (.ireturn, 1) := by decide +kernel
theorem dX6_wouldRatherShare_39 : decode cX6_wouldRatherShare 39 = .ok (.aload_n 3, 1) := by decide +kernel
theorem dX6_wouldRatherShare_40 : decode cX6_wouldRatherShare 40 = .ok (.iload_n 1, 1) := by decide +kernel
theorem dX6_wouldRatherShare_41 : decode cX6_wouldRatherShare 41 = .ok (.iload_n 2, 1) := by decide +kernel
theorem dX6_wouldRatherShare_42 : decode cX6_wouldRatherShare 42 = .ok (.invokevirtual 228, 3) := by decide +kernel
theorem dX6_wouldRatherShare_45 : decode cX6_wouldRatherShare 45 = .ok (.istore 5, 2) := by decide +kernel
theorem dX6_wouldRatherShare_47 : decode cX6_wouldRatherShare 47 = .ok (.iload 5, 2) := by decide +kernel
theorem dX6_wouldRatherShare_49 : decode cX6_wouldRatherShare 49 = .ok (.aload_n 3, 1) := by decide +kernel
theorem dX6_wouldRatherShare_50 : decode cX6_wouldRatherShare 50 = .ok (.iload_n 1, 1) := by decide +kernel
theorem dX6_wouldRatherShare_51 : decode cX6_wouldRatherShare 51 = .ok (.iload 4, 2) := by decide +kernel
theorem dX6_wouldRatherShare_53 : decode cX6_wouldRatherShare 53 = .ok (.invokevirtual 228, 3) := by decide +kernel
theorem dX6_wouldRatherShare_56 : decode cX6_wouldRatherShare 56 = .ok (.if_icmp .le 22, 3) := by decide +kernel
theorem dX6_wouldRatherShare_59 : decode cX6_wouldRatherShare 59 = .ok (.iload 5, 2) := by decide +kernel
theorem dX6_wouldRatherShare_61 : decode cX6_wouldRatherShare 61 = .ok (.aload_n 3, 1) := by decide +kernel
theorem dX6_wouldRatherShare_62 : decode cX6_wouldRatherShare 62 = .ok (.iload_n 2, 1) := by decide +kernel
theorem dX6_wouldRatherShare_63 : decode cX6_wouldRatherShare 63 = .ok (.aload_n 0, 1) := by decide +kernel
theorem dX6_wouldRatherShare_64 : decode cX6_wouldRatherShare 64 = .ok (.iload_n 2, 1) := by decide +kernel
theorem dX6_wouldRatherShare_65 : decode cX6_wouldRatherShare 65 = .ok (.invokevirtual 225, 3) := by decide +kernel
theorem dX6_wouldRatherShare_68 : decode cX6_wouldRatherShare 68 = .ok (.invokevirtual 228, 3) := by decide +kernel
theorem dX6_wouldRatherShare_71 : decode cX6_wouldRatherShare 71 = .ok (.if_icmp .le 7, 3) := by decide +kernel
theorem dX6_wouldRatherShare_74 : decode cX6_wouldRatherShare 74 = .ok (.iconst 1, 1) := by decide +kernel
theorem dX6_wouldRatherShare_75 : decode cX6_wouldRatherShare 75 = .ok (.goto 4, 3) := by decide +kernel
theorem dX6_wouldRatherShare_78 : decode cX6_wouldRatherShare 78 = .ok (.iconst 0, 1) := by decide +kernel
theorem dX6_wouldRatherShare_79 : decode cX6_wouldRatherShare 79 = .ok (.ireturn, 1) := by decide +kernel
theorem dX6_seen_0 : decode cX6_seen 0 = .ok (.iload_n 1, 1) := by decide +kernel
theorem dX6_seen_1 : decode cX6_seen 1 = .ok (.invokestatic 56, 3) := by decide +kernel
theorem dX6_seen_4 : decode cX6_seen 4 = .ok (.ifCond .ne 6, 3) := by decide +kernel
theorem dX6_seen_7 : decode cX6_seen 7 = .ok (.bipush (-2), 2) := by decide +kernel
theorem dX6_seen_9 : decode cX6_seen 9 = .ok (.ireturn, 1) := by decide +kernel
theorem dX6_seen_10 : decode cX6_seen 10 = .ok (.aload_n 0, 1) := by decide +kernel
theorem dX6_seen_11 : decode cX6_seen 11 = .ok (.getfield 10, 3) := by decide +kernel
theorem dX6_seen_14 : decode cX6_seen 14 = .ok (.getfield 231, 3) := by decide +kernel
theorem dX6_seen_17 : decode cX6_seen 17 = .ok (.iload_n 1, 1) := by decide +kernel
theorem dX6_seen_18 : decode cX6_seen 18 = .ok (.iload_n 2, 1) := by decide +kernel
theorem dX6_seen_19 : decode cX6_seen 19 = .ok (.invokevirtual 235, 3) := by decide +kernel
theorem dX6_seen_22 : decode cX6_seen 22 = .ok (.ifCond .eq 16, 3) := by decide +kernel
theorem dX6_seen_25 : decode cX6_seen 25 = .ok (.aload_n 0, 1) := by decide +kernel
theorem dX6_seen_26 : decode cX6_seen 26 = .ok (.getfield 10, 3) := by decide +kernel
theorem dX6_seen_29 : decode cX6_seen 29 = .ok (.getfield 231, 3) := by decide +kernel
theorem dX6_seen_32 : decode cX6_seen 32 = .ok (.invokevirtual 240, 3) := by decide +kernel
theorem dX6_seen_35 : decode cX6_seen 35 = .ok (.goto 5, 3) := by decide +kernel
theorem dX6_seen_38 : decode cX6_seen 38 = .ok (.bipush (-4), 2) := by decide +kernel
theorem dX6_seen_40 : decode cX6_seen 40 = .ok (.ireturn, 1) := by decide +kernel
theorem dX6_forget_0 : decode cX6_forget 0 = .ok (.aload_n 0, 1) := by decide +kernel
theorem dX6_forget_1 : decode cX6_forget 1 = .ok (.getfield 10, 3) := by decide +kernel
theorem dX6_forget_4 : decode cX6_forget 4 = .ok (.getfield 231, 3) := by decide +kernel
theorem dX6_forget_7 : decode cX6_forget 7 = .ok (.invokevirtual 240, 3) := by decide +kernel
theorem dX6_forget_10 : decode cX6_forget 10 = .ok (.istore_n 1, 1) := by decide +kernel
theorem dX6_forget_11 : decode cX6_forget 11 = .ok (.aload_n 0, 1) := by decide +kernel
theorem dX6_forget_12 : decode cX6_forget 12 = .ok (.getfield 10, 3) := by decide +kernel
theorem dX6_forget_15 : decode cX6_forget 15 = .ok (.getfield 231, 3) := by decide +kernel
theorem dX6_forget_18 : decode cX6_forget 18 = .ok (.invokevirtual 241, 3) := by decide +kernel
theorem dX6_forget_21 : decode cX6_forget 21 = .ok (.iload_n 1, 1) := by decide +kernel
theorem dX6_forget_22 : decode cX6_forget 22 = .ok (.ireturn, 1) := by decide +kernel
theorem dX6_lodes_0 : decode cX6_lodes 0 = .ok (.iload_n 1, 1) := by decide +kernel
theorem dX6_lodes_1 : decode cX6_lodes 1 = .ok (.iconst (-1), 1) := by decide +kernel
theorem dX6_lodes_2 : decode cX6_lodes 2 = .ok (.if_icmp .ne 16, 3) := by decide +kernel
theorem dX6_lodes_5 : decode cX6_lodes 5 = .ok (.aload_n 0, 1) := by decide +kernel
theorem dX6_lodes_6 : decode cX6_lodes 6 = .ok (.getfield 10, 3) := by decide +kernel
theorem dX6_lodes_9 : decode cX6_lodes 9 = .ok (.getfield 231, 3) := by decide +kernel
theorem dX6_lodes_12 : decode cX6_lodes 12 = .ok (.invokevirtual 242, 3) := by decide +kernel
theorem dX6_lodes_15 : decode cX6_lodes 15 = .ok (.goto 14, 3) := by decide +kernel
theorem dX6_lodes_18 : decode cX6_lodes 18 = .ok (.aload_n 0, 1) := by decide +kernel
theorem dX6_lodes_19 : decode cX6_lodes 19 = .ok (.getfield 10, 3) := by decide +kernel
theorem dX6_lodes_22 : decode cX6_lodes 22 = .ok (.getfield 231, 3) := by decide +kernel
theorem dX6_lodes_25 : decode cX6_lodes 25 = .ok (.iload_n 1, 1) := by decide +kernel
theorem dX6_lodes_26 : decode cX6_lodes 26 = .ok (.invokevirtual 245, 3) := by decide +kernel
theorem dX6_lodes_29 : decode cX6_lodes 29 = .ok (.ireturn, 1) := by decide +kernel
theorem dX6_odds_0 : decode cX6_odds 0 = .ok (.iload_n 1, 1) := by decide +kernel
theorem dX6_odds_1 : decode cX6_odds 1 = .ok (.invokestatic 56, 3) := by decide +kernel
theorem dX6_odds_4 : decode cX6_odds 4 = .ok (.ifCond .eq 10, 3) := by decide +kernel
theorem dX6_odds_7 : decode cX6_odds 7 = .ok (.iload_n 2, 1) := by decide +kernel
theorem dX6_odds_8 : decode cX6_odds 8 = .ok (.invokestatic 157, 3) := by decide +kernel
theorem dX6_odds_11 : decode cX6_odds 11 = .ok (.ifCond .ne 7, 3) := by decide +kernel
theorem dX6_odds_14 : decode cX6_odds 14 = .ok (.ldc2_w 248, 3) := by decide +kernel
theorem dX6_odds_17 : decode cX6_odds 17 = .ok (.lreturn, 1) := by decide +kernel
theorem dX6_odds_18 : decode cX6_odds 18 = .ok (.aload_n 0, 1) := by decide +kernel
theorem dX6_odds_19 : decode cX6_odds 19 = .ok (.getfield 10, 3) := by decide +kernel
theorem dX6_odds_22 : decode cX6_odds 22 = .ok (.getfield 231, 3) := by decide +kernel
theorem dX6_odds_25 : decode cX6_odds 25 = .ok (.iload_n 1, 1) := by decide +kernel
theorem dX6_odds_26 : decode cX6_odds 26 = .ok (.invokevirtual 250, 3) := by decide +kernel
theorem dX6_odds_29 : decode cX6_odds 29 = .ok (.i2l, 1) := by decide +kernel
theorem dX6_odds_30 : decode cX6_odds 30 = .ok (.aload_n 0, 1) := by decide +kernel
theorem dX6_odds_31 : decode cX6_odds 31 = .ok (.getfield 10, 3) := by decide +kernel
theorem dX6_odds_34 : decode cX6_odds 34 = .ok (.getfield 231, 3) := by decide +kernel
theorem dX6_odds_37 : decode cX6_odds 37 = .ok (.invokevirtual 242, 3) := by decide +kernel
theorem dX6_odds_40 : decode cX6_odds 40 = .ok (.i2l, 1) := by decide +kernel
theorem dX6_odds_41 : decode cX6_odds 41 = .ok (.iload_n 2, 1) := by decide +kernel
theorem dX6_odds_42 : decode cX6_odds 42 = .ok (.invokestatic 253, 3) := by decide +kernel
theorem dX6_odds_45 : decode cX6_odds 45 = .ok (.lreturn, 1) := by decide +kernel
theorem dX6_next_0 : decode cX6_next 0 = .ok (.iload_n 1, 1) := by decide +kernel
theorem dX6_next_1 : decode cX6_next 1 = .ok (.invokestatic 157, 3) := by decide +kernel
theorem dX6_next_4 : decode cX6_next 4 = .ok (.ifCond .ne 6, 3) := by decide +kernel
theorem dX6_next_7 : decode cX6_next 7 = .ok (.bipush (-2), 2) := by decide +kernel
theorem dX6_next_9 : decode cX6_next 9 = .ok (.ireturn, 1) := by decide +kernel
theorem dX6_next_10 : decode cX6_next 10 = .ok (.aload_n 0, 1) := by decide +kernel
theorem dX6_next_11 : decode cX6_next 11 = .ok (.getfield 10, 3) := by decide +kernel
theorem dX6_next_14 : decode cX6_next 14 = .ok (.getfield 231, 3) := by decide +kernel
theorem dX6_next_17 : decode cX6_next 17 = .ok (.invokevirtual 242, 3) := by decide +kernel
theorem dX6_next_20 : decode cX6_next 20 = .ok (.istore_n 2, 1) := by decide +kernel
theorem dX6_next_21 : decode cX6_next 21 = .ok (.iload_n 2, 1) := by decide +kernel
theorem dX6_next_22 : decode cX6_next 22 = .ok (.ifCond .ne 6, 3) := by decide +kernel
theorem dX6_next_25 : decode cX6_next 25 = .ok (.bipush (-6), 2) := by decide +kernel
theorem dX6_next_27 : decode cX6_next 27 = .ok (.ireturn, 1) := by decide +kernel
theorem dX6_next_28 : decode cX6_next 28 = .ok (.bipush (-6), 2) := by decide +kernel
theorem dX6_next_30 : decode cX6_next 30 = .ok (.istore_n 3, 1) := by decide +kernel
theorem dX6_next_31 : decode cX6_next 31 = .ok (.iload_n 2, 1) := by decide +kernel
theorem dX6_next_32 : decode cX6_next 32 = .ok (.istore 4, 2) := by decide +kernel
theorem dX6_next_34 : decode cX6_next 34 = .ok (.iconst 0, 1) := by decide +kernel
theorem dX6_next_35 : decode cX6_next 35 = .ok (.istore 5, 2) := by decide +kernel
theorem dX6_next_37 : decode cX6_next 37 = .ok (.iload 5, 2) := by decide +kernel
theorem dX6_next_39 : decode cX6_next 39 = .ok (.bipush 64, 2) := by decide +kernel
theorem dX6_next_41 : decode cX6_next 41 = .ok (.if_icmp .ge 54, 3) := by decide +kernel
theorem dX6_next_44 : decode cX6_next 44 = .ok (.aload_n 0, 1) := by decide +kernel
theorem dX6_next_45 : decode cX6_next 45 = .ok (.getfield 10, 3) := by decide +kernel
theorem dX6_next_48 : decode cX6_next 48 = .ok (.getfield 231, 3) := by decide +kernel
theorem dX6_next_51 : decode cX6_next 51 = .ok (.iload 5, 2) := by decide +kernel
theorem dX6_next_53 : decode cX6_next 53 = .ok (.invokevirtual 250, 3) := by decide +kernel
theorem dX6_next_56 : decode cX6_next 56 = .ok (.istore 6, 2) := by decide +kernel
theorem dX6_next_58 : decode cX6_next 58 = .ok (.iload 6, 2) := by decide +kernel
theorem dX6_next_60 : decode cX6_next 60 = .ok (.iload_n 2, 1) := by decide +kernel
theorem dX6_next_61 : decode cX6_next 61 = .ok (.iload 6, 2) := by decide +kernel
theorem dX6_next_63 : decode cX6_next 63 = .ok (.isub, 1) := by decide +kernel
theorem dX6_next_64 : decode cX6_next 64 = .ok (.invokestatic 257, 3) := by decide +kernel
theorem dX6_next_67 : decode cX6_next 67 = .ok (.istore 7, 2) := by decide +kernel
theorem dX6_next_69 : decode cX6_next 69 = .ok (.iload_n 3, 1) := by decide +kernel
theorem dX6_next_70 : decode cX6_next 70 = .ok (.bipush (-6), 2) := by decide +kernel
theorem dX6_next_72 : decode cX6_next 72 = .ok (.if_icmp .eq 10, 3) := by decide +kernel
theorem dX6_next_75 : decode cX6_next 75 = .ok (.iload 7, 2) := by decide +kernel
theorem dX6_next_77 : decode cX6_next 77 = .ok (.iload 4, 2) := by decide +kernel
theorem dX6_next_79 : decode cX6_next 79 = .ok (.if_icmp .ge 10, 3) := by decide +kernel
theorem dX6_next_82 : decode cX6_next 82 = .ok (.iload 5, 2) := by decide +kernel
theorem dX6_next_84 : decode cX6_next 84 = .ok (.istore_n 3, 1) := by decide +kernel
theorem dX6_next_85 : decode cX6_next 85 = .ok (.iload 7, 2) := by decide +kernel
theorem dX6_next_87 : decode cX6_next 87 = .ok (.istore 4, 2) := by decide +kernel
theorem dX6_next_89 : decode cX6_next 89 = .ok (.iinc 5 1, 3) := by decide +kernel
theorem dX6_next_92 : decode cX6_next 92 = .ok (.goto (-55), 3) := by decide +kernel
theorem dX6_next_95 : decode cX6_next 95 = .ok (.iload_n 1, 1) := by decide +kernel
theorem dX6_next_96 : decode cX6_next 96 = .ok (.ifCond .ne 7, 3) := by decide +kernel
theorem dX6_next_99 : decode cX6_next 99 = .ok (.iload_n 3, 1) := by decide +kernel
theorem dX6_next_100 : decode cX6_next 100 = .ok (.goto 5, 3) := by decide +kernel
theorem dX6_next_103 : decode cX6_next 103 = .ok (.iload 4, 2) := by decide +kernel
theorem dX6_next_105 : decode cX6_next 105 = .ok (.ireturn, 1) := by decide +kernel
theorem dX6_turns_0 : decode cX6_turns 0 = .ok (.iload_n 1, 1) := by decide +kernel
theorem dX6_turns_1 : decode cX6_turns 1 = .ok (.iconst 0, 1) := by decide +kernel
theorem dX6_turns_2 : decode cX6_turns 2 = .ok (.ldc 203, 2) := by decide +kernel
theorem dX6_turns_4 : decode cX6_turns 4 = .ok (.invokestatic 60, 3) := by decide +kernel
theorem dX6_turns_7 : decode cX6_turns 7 = .ok (.ifCond .eq 10, 3) := by decide +kernel
theorem dX6_turns_10 : decode cX6_turns 10 = .ok (.iload_n 2, 1) := by decide +kernel
theorem dX6_turns_11 : decode cX6_turns 11 = .ok (.invokestatic 157, 3) := by decide +kernel
theorem dX6_turns_14 : decode cX6_turns 14 = .ok (.ifCond .ne 6, 3) := by decide +kernel
theorem dX6_turns_17 : decode cX6_turns 17 = .ok (.bipush (-2), 2) := by decide +kernel
theorem dX6_turns_19 : decode cX6_turns 19 = .ok (.ireturn, 1) := by decide +kernel
theorem dX6_turns_20 : decode cX6_turns 20 = .ok (.aload_n 0, 1) := by decide +kernel
theorem dX6_turns_21 : decode cX6_turns 21 = .ok (.iload_n 1, 1) := by decide +kernel
theorem dX6_turns_22 : decode cX6_turns 22 = .ok (.invokevirtual 204, 3) := by decide +kernel
theorem dX6_turns_25 : decode cX6_turns 25 = .ok (.iconst 1, 1) := by decide +kernel
theorem dX6_turns_26 : decode cX6_turns 26 = .ok (.istore_n 3, 1) := by decide +kernel
theorem dX6_turns_27 : decode cX6_turns 27 = .ok (.iload_n 3, 1) := by decide +kernel
theorem dX6_turns_28 : decode cX6_turns 28 = .ok (.bipush 6, 2) := by decide +kernel
theorem dX6_turns_30 : decode cX6_turns 30 = .ok (.if_icmp .ge 14, 3) := by decide +kernel
theorem dX6_turns_33 : decode cX6_turns 33 = .ok (.aload_n 0, 1) := by decide +kernel
theorem dX6_turns_34 : decode cX6_turns 34 = .ok (.iload_n 3, 1) := by decide +kernel
theorem dX6_turns_35 : decode cX6_turns 35 = .ok (.invokevirtual 262, 3) := by decide +kernel
theorem dX6_turns_38 : decode cX6_turns 38 = .ok (.iinc 3 1, 3) := by decide +kernel
theorem dX6_turns_41 : decode cX6_turns 41 = .ok (.goto (-14), 3) := by decide +kernel
theorem dX6_turns_44 : decode cX6_turns 44 = .ok (.aload_n 0, 1) := by decide +kernel
theorem dX6_turns_45 : decode cX6_turns 45 = .ok (.iconst 0, 1) := by decide +kernel
theorem dX6_turns_46 : decode cX6_turns 46 = .ok (.invokevirtual 225, 3) := by decide +kernel
theorem dX6_turns_49 : decode cX6_turns 49 = .ok (.aload_n 0, 1) := by decide +kernel
theorem dX6_turns_50 : decode cX6_turns 50 = .ok (.iconst 1, 1) := by decide +kernel
theorem dX6_turns_51 : decode cX6_turns 51 = .ok (.invokevirtual 265, 3) := by decide +kernel
theorem dX6_turns_54 : decode cX6_turns 54 = .ok (.isub, 1) := by decide +kernel
theorem dX6_turns_55 : decode cX6_turns 55 = .ok (.istore_n 3, 1) := by decide +kernel
theorem dX6_turns_56 : decode cX6_turns 56 = .ok (.aload_n 0, 1) := by decide +kernel
theorem dX6_turns_57 : decode cX6_turns 57 = .ok (.iconst 5, 1) := by decide +kernel
theorem dX6_turns_58 : decode cX6_turns 58 = .ok (.invokevirtual 225, 3) := by decide +kernel
theorem dX6_turns_61 : decode cX6_turns 61 = .ok (.aload_n 0, 1) := by decide +kernel
theorem dX6_turns_62 : decode cX6_turns 62 = .ok (.iconst 0, 1) := by decide +kernel
theorem dX6_turns_63 : decode cX6_turns 63 = .ok (.invokevirtual 265, 3) := by decide +kernel
theorem dX6_turns_66 : decode cX6_turns 66 = .ok (.isub, 1) := by decide +kernel
theorem dX6_turns_67 : decode cX6_turns 67 = .ok (.istore 4, 2) := by decide +kernel
theorem dX6_turns_69 : decode cX6_turns 69 = .ok (.iload_n 2, 1) := by decide +kernel
theorem dX6_turns_70 : decode cX6_turns 70 = .ok (.iconst 1, 1) := by decide +kernel
theorem dX6_turns_71 : decode cX6_turns 71 = .ok (.if_icmp .ne 15, 3) := by decide +kernel
theorem dX6_turns_74 : decode cX6_turns 74 = .ok (.iload_n 3, 1) := by decide +kernel
theorem dX6_turns_75 : decode cX6_turns 75 = .ok (.iload 4, 2) := by decide +kernel
theorem dX6_turns_77 : decode cX6_turns 77 = .ok (.if_icmp .lt 7, 3) := by decide +kernel
theorem dX6_turns_80 : decode cX6_turns 80 = .ok (.iconst 0, 1) := by decide +kernel
theorem dX6_turns_81 : decode cX6_turns 81 = .ok (.goto 4, 3) := by decide +kernel
theorem dX6_turns_84 : decode cX6_turns 84 = .ok (.iconst 1, 1) := by decide +kernel
theorem dX6_turns_85 : decode cX6_turns 85 = .ok (.ireturn, 1) := by decide +kernel
theorem dX6_turns_86 : decode cX6_turns 86 = .ok (.bipush 100, 2) := by decide +kernel
theorem dX6_turns_88 : decode cX6_turns 88 = .ok (.iload_n 3, 1) := by decide +kernel
theorem dX6_turns_89 : decode cX6_turns 89 = .ok (.iload 4, 2) := by decide +kernel
theorem dX6_turns_91 : decode cX6_turns 91 = .ok (.invokestatic 257, 3) := by decide +kernel
theorem dX6_turns_94 : decode cX6_turns 94 = .ok (.iadd, 1) := by decide +kernel
theorem dX6_turns_95 : decode cX6_turns 95 = .ok (.ireturn, 1) := by decide +kernel
theorem dX6_colds_0 : decode cX6_colds 0 = .ok (.iload_n 1, 1) := by decide +kernel
theorem dX6_colds_1 : decode cX6_colds 1 = .ok (.invokestatic 56, 3) := by decide +kernel
theorem dX6_colds_4 : decode cX6_colds 4 = .ok (.ifCond .eq 32, 3) := by decide +kernel
theorem dX6_colds_7 : decode cX6_colds 7 = .ok (.iload_n 2, 1) := by decide +kernel
theorem dX6_colds_8 : decode cX6_colds 8 = .ok (.iconst 0, 1) := by decide +kernel
theorem dX6_colds_9 : decode cX6_colds 9 = .ok (.bipush 10, 2) := by decide +kernel
theorem dX6_colds_11 : decode cX6_colds 11 = .ok (.invokestatic 60, 3) := by decide +kernel
theorem dX6_colds_14 : decode cX6_colds 14 = .ok (.ifCond .eq 22, 3) := by decide +kernel
theorem dX6_colds_17 : decode cX6_colds 17 = .ok (.iload_n 3, 1) := by decide +kernel
theorem dX6_colds_18 : decode cX6_colds 18 = .ok (.iconst (-1), 1) := by decide +kernel
theorem dX6_colds_19 : decode cX6_colds 19 = .ok (.sipush 999, 3) := by decide +kernel
theorem dX6_colds_22 : decode cX6_colds 22 = .ok (.invokestatic 60, 3) := by decide +kernel
theorem dX6_colds_25 : decode cX6_colds 25 = .ok (.ifCond .eq 11, 3) := by decide +kernel
theorem dX6_colds_28 : decode cX6_colds 28 = .ok (.iload 4, 2) := by decide +kernel
theorem dX6_colds_30 : decode cX6_colds 30 = .ok (.invokestatic 157, 3) := by decide +kernel
theorem dX6_colds_33 : decode cX6_colds 33 = .ok (.ifCond .ne 7, 3) := by decide +kernel
theorem dX6_colds_36 : decode cX6_colds 36 = .ok (.ldc2_w 248, 3) := by decide +kernel
theorem dX6_colds_39 : decode cX6_colds 39 = .ok (.lreturn, 1) := by decide +kernel
theorem dX6_colds_40 : decode cX6_colds 40 = .ok (.aload_n 0, 1) := by decide +kernel
theorem dX6_colds_41 : decode cX6_colds 41 = .ok (.iload_n 1, 1) := by decide +kernel
theorem dX6_colds_42 : decode cX6_colds 42 = .ok (.invokevirtual 268, 3) := by decide +kernel
theorem dX6_colds_45 : decode cX6_colds 45 = .ok (.aload_n 0, 1) := by decide +kernel
theorem dX6_colds_46 : decode cX6_colds 46 = .ok (.getfield 10, 3) := by decide +kernel
theorem dX6_colds_49 : decode cX6_colds 49 = .ok (.getfield 64, 3) := by decide +kernel
theorem dX6_colds_52 : decode cX6_colds 52 = .ok (.invokevirtual 271, 3) := by decide +kernel
theorem dX6_colds_55 : decode cX6_colds 55 = .ok (.istore 5, 2) := by decide +kernel
theorem dX6_colds_57 : decode cX6_colds 57 = .ok (.lconst 0, 1) := by decide +kernel
theorem dX6_colds_58 : decode cX6_colds 58 = .ok (.lstore 6, 2) := by decide +kernel
theorem dX6_colds_60 : decode cX6_colds 60 = .ok (.iconst 0, 1) := by decide +kernel
theorem dX6_colds_61 : decode cX6_colds 61 = .ok (.istore 8, 2) := by decide +kernel
theorem dX6_colds_63 : decode cX6_colds 63 = .ok (.iload 8, 2) := by decide +kernel
theorem dX6_colds_65 : decode cX6_colds 65 = .ok (.bipush 64, 2) := by decide +kernel
theorem dX6_colds_67 : decode cX6_colds 67 = .ok (.if_icmp .ge 82, 3) := by decide +kernel
theorem dX6_colds_70 : decode cX6_colds 70 = .ok (.iload 8, 2) := by decide +kernel
theorem dX6_colds_72 : decode cX6_colds 72 = .ok (.iload 5, 2) := by decide +kernel
theorem dX6_colds_74 : decode cX6_colds 74 = .ok (.iand, 1) := by decide +kernel
theorem dX6_colds_75 : decode cX6_colds 75 = .ok (.iload 8, 2) := by decide +kernel
theorem dX6_colds_77 : decode cX6_colds 77 = .ok (.if_icmp .ne 66, 3) := by decide +kernel
theorem dX6_colds_80 : decode cX6_colds 80 = .ok (.aload_n 0, 1) := by decide +kernel
theorem dX6_colds_81 : decode cX6_colds 81 = .ok (.iload 5, 2) := by decide +kernel
theorem dX6_colds_83 : decode cX6_colds 83 = .ok (.iload 8, 2) := by decide +kernel
theorem dX6_colds_85 : decode cX6_colds 85 = .ok (.invokevirtual 274, 3) := by decide +kernel
theorem dX6_colds_88 : decode cX6_colds 88 = .ok (.istore 9, 2) := by decide +kernel
theorem dX6_colds_90 : decode cX6_colds 90 = .ok (.iload 8, 2) := by decide +kernel
theorem dX6_colds_92 : decode cX6_colds 92 = .ok (.invokestatic 199, 3) := by decide +kernel
theorem dX6_colds_95 : decode cX6_colds 95 = .ok (.iload 5, 2) := by decide +kernel
theorem dX6_colds_97 : decode cX6_colds 97 = .ok (.iload 8, 2) := by decide +kernel
theorem dX6_colds_99 : decode cX6_colds 99 = .ok (.iconst (-1), 1) := by decide +kernel
theorem dX6_colds_100 : decode cX6_colds 100 = .ok (.ixor, 1) := by decide +kernel
theorem dX6_colds_101 : decode cX6_colds 101 = .ok (.iand, 1) := by decide +kernel
theorem dX6_colds_102 : decode cX6_colds 102 = .ok (.invokestatic 199, 3) := by decide +kernel
theorem dX6_colds_105 : decode cX6_colds 105 = .ok (.iload_n 2, 1) := by decide +kernel
theorem dX6_colds_106 : decode cX6_colds 106 = .ok (.invokestatic 277, 3) := by decide +kernel
theorem dX6_colds_109 : decode cX6_colds 109 = .ok (.lstore 10, 2) := by decide +kernel
theorem dX6_colds_111 : decode cX6_colds 111 = .ok (.iload_n 3, 1) := by decide +kernel
theorem dX6_colds_112 : decode cX6_colds 112 = .ok (.iconst (-1), 1) := by decide +kernel
theorem dX6_colds_113 : decode cX6_colds 113 = .ok (.if_icmp .ne 17, 3) := by decide +kernel
theorem dX6_colds_116 : decode cX6_colds 116 = .ok (.lload 6, 2) := by decide +kernel
theorem dX6_colds_118 : decode cX6_colds 118 = .ok (.lload 10, 2) := by decide +kernel
theorem dX6_colds_120 : decode cX6_colds 120 = .ok (.iload 9, 2) := by decide +kernel
theorem dX6_colds_122 : decode cX6_colds 122 = .ok (.i2l, 1) := by decide +kernel
theorem dX6_colds_123 : decode cX6_colds 123 = .ok (.lmul, 1) := by decide +kernel
theorem dX6_colds_124 : decode cX6_colds 124 = .ok (.ladd, 1) := by decide +kernel
theorem dX6_colds_125 : decode cX6_colds 125 = .ok (.lstore 6, 2) := by decide +kernel
theorem dX6_colds_127 : decode cX6_colds 127 = .ok (.goto 16, 3) := by decide +kernel
theorem dX6_colds_130 : decode cX6_colds 130 = .ok (.iload 9, 2) := by decide +kernel
theorem dX6_colds_132 : decode cX6_colds 132 = .ok (.iload_n 3, 1) := by decide +kernel
theorem dX6_colds_133 : decode cX6_colds 133 = .ok (.if_icmp .lt 10, 3) := by decide +kernel
theorem dX6_colds_136 : decode cX6_colds 136 = .ok (.lload 6, 2) := by decide +kernel
theorem dX6_colds_138 : decode cX6_colds 138 = .ok (.lload 10, 2) := by decide +kernel
theorem dX6_colds_140 : decode cX6_colds 140 = .ok (.ladd, 1) := by decide +kernel
theorem dX6_colds_141 : decode cX6_colds 141 = .ok (.lstore 6, 2) := by decide +kernel
theorem dX6_colds_143 : decode cX6_colds 143 = .ok (.iinc 8 1, 3) := by decide +kernel
theorem dX6_colds_146 : decode cX6_colds 146 = .ok (.goto (-83), 3) := by decide +kernel
theorem dX6_colds_149 : decode cX6_colds 149 = .ok (.lload 6, 2) := by decide +kernel
theorem dX6_colds_151 : decode cX6_colds 151 = .ok (.bipush 10, 2) := by decide +kernel
theorem dX6_colds_153 : decode cX6_colds 153 = .ok (.iload 5, 2) := by decide +kernel
theorem dX6_colds_155 : decode cX6_colds 155 = .ok (.invokestatic 199, 3) := by decide +kernel
theorem dX6_colds_158 : decode cX6_colds 158 = .ok (.invokestatic 281, 3) := by decide +kernel
theorem dX6_colds_161 : decode cX6_colds 161 = .ok (.iload 4, 2) := by decide +kernel
theorem dX6_colds_163 : decode cX6_colds 163 = .ok (.invokestatic 253, 3) := by decide +kernel
theorem dX6_colds_166 : decode cX6_colds 166 = .ok (.lreturn, 1) := by decide +kernel
theorem dX6_year_0 : decode cX6_year 0 = .ok (.iload_n 1, 1) := by decide +kernel
theorem dX6_year_1 : decode cX6_year 1 = .ok (.iconst 0, 1) := by decide +kernel
theorem dX6_year_2 : decode cX6_year 2 = .ok (.sipush 9999, 3) := by decide +kernel
theorem dX6_year_5 : decode cX6_year 5 = .ok (.invokestatic 60, 3) := by decide +kernel
theorem dX6_year_8 : decode cX6_year 8 = .ok (.ifCond .eq 22, 3) := by decide +kernel
theorem dX6_year_11 : decode cX6_year 11 = .ok (.iload_n 2, 1) := by decide +kernel
theorem dX6_year_12 : decode cX6_year 12 = .ok (.iconst 1, 1) := by decide +kernel
theorem dX6_year_13 : decode cX6_year 13 = .ok (.bipush 99, 2) := by decide +kernel
theorem dX6_year_15 : decode cX6_year 15 = .ok (.invokestatic 60, 3) := by decide +kernel
theorem dX6_year_18 : decode cX6_year 18 = .ok (.ifCond .eq 12, 3) := by decide +kernel
theorem dX6_year_21 : decode cX6_year 21 = .ok (.iload_n 3, 1) := by decide +kernel
theorem dX6_year_22 : decode cX6_year 22 = .ok (.iconst 0, 1) := by decide +kernel
theorem dX6_year_23 : decode cX6_year 23 = .ok (.iconst 2, 1) := by decide +kernel
theorem dX6_year_24 : decode cX6_year 24 = .ok (.invokestatic 60, 3) := by decide +kernel
theorem dX6_year_27 : decode cX6_year 27 = .ok (.ifCond .ne 6, 3) := by decide +kernel
theorem dX6_year_30 : decode cX6_year 30 = .ok (.bipush (-2), 2) := by decide +kernel
theorem dX6_year_32 : decode cX6_year 32 = .ok (.ireturn, 1) := by decide +kernel
theorem dX6_year_33 : decode cX6_year 33 = .ok (.aload_n 0, 1) := by decide +kernel
theorem dX6_year_34 : decode cX6_year 34 = .ok (.getfield 39, 3) := by decide +kernel
theorem dX6_year_37 : decode cX6_year 37 = .ok (.aload_n 0, 1) := by decide +kernel
theorem dX6_year_38 : decode cX6_year 38 = .ok (.getfield 10, 3) := by decide +kernel
theorem dX6_year_41 : decode cX6_year 41 = .ok (.getfield 64, 3) := by decide +kernel
theorem dX6_year_44 : decode cX6_year 44 = .ok (.invokevirtual 166, 3) := by decide +kernel
theorem dX6_year_47 : decode cX6_year 47 = .ok (.iload_n 1, 1) := by decide +kernel
theorem dX6_year_48 : decode cX6_year 48 = .ok (.istore 4, 2) := by decide +kernel
theorem dX6_year_50 : decode cX6_year 50 = .ok (.iconst 0, 1) := by decide +kernel
theorem dX6_year_51 : decode cX6_year 51 = .ok (.istore 5, 2) := by decide +kernel
theorem dX6_year_53 : decode cX6_year 53 = .ok (.iload 5, 2) := by decide +kernel
theorem dX6_year_55 : decode cX6_year 55 = .ok (.iload_n 2, 1) := by decide +kernel
theorem dX6_year_56 : decode cX6_year 56 = .ok (.if_icmp .ge 65, 3) := by decide +kernel
theorem dX6_year_59 : decode cX6_year 59 = .ok (.bipush 75, 2) := by decide +kernel
theorem dX6_year_61 : decode cX6_year 61 = .ok (.iload 4, 2) := by decide +kernel
theorem dX6_year_63 : decode cX6_year 63 = .ok (.imul, 1) := by decide +kernel
theorem dX6_year_64 : decode cX6_year 64 = .ok (.bipush 74, 2) := by decide +kernel
theorem dX6_year_66 : decode cX6_year 66 = .ok (.iadd, 1) := by decide +kernel
theorem dX6_year_67 : decode cX6_year 67 = .ok (.ldc_w 285, 3) := by decide +kernel
theorem dX6_year_70 : decode cX6_year 70 = .ok (.irem, 1) := by decide +kernel
theorem dX6_year_71 : decode cX6_year 71 = .ok (.istore 4, 2) := by decide +kernel
theorem dX6_year_73 : decode cX6_year 73 = .ok (.iload 4, 2) := by decide +kernel
theorem dX6_year_75 : decode cX6_year 75 = .ok (.bipush 6, 2) := by decide +kernel
theorem dX6_year_77 : decode cX6_year 77 = .ok (.irem, 1) := by decide +kernel
theorem dX6_year_78 : decode cX6_year 78 = .ok (.istore 6, 2) := by decide +kernel
theorem dX6_year_80 : decode cX6_year 80 = .ok (.iload 4, 2) := by decide +kernel
theorem dX6_year_82 : decode cX6_year 82 = .ok (.bipush 6, 2) := by decide +kernel
theorem dX6_year_84 : decode cX6_year 84 = .ok (.idiv, 1) := by decide +kernel
theorem dX6_year_85 : decode cX6_year 85 = .ok (.bipush 8, 2) := by decide +kernel
theorem dX6_year_87 : decode cX6_year 87 = .ok (.irem, 1) := by decide +kernel
theorem dX6_year_88 : decode cX6_year 88 = .ok (.istore 7, 2) := by decide +kernel
theorem dX6_year_90 : decode cX6_year 90 = .ok (.aload_n 0, 1) := by decide +kernel
theorem dX6_year_91 : decode cX6_year 91 = .ok (.getfield 39, 3) := by decide +kernel
theorem dX6_year_94 : decode cX6_year 94 = .ok (.iload 6, 2) := by decide +kernel
theorem dX6_year_96 : decode cX6_year 96 = .ok (.iload 7, 2) := by decide +kernel
theorem dX6_year_98 : decode cX6_year 98 = .ok (.invokevirtual 286, 3) := by decide +kernel
theorem dX6_year_101 : decode cX6_year 101 = .ok (.ifCond .ne 14, 3) := by decide +kernel
theorem dX6_year_104 : decode cX6_year 104 = .ok (.aload_n 0, 1) := by decide +kernel
theorem dX6_year_105 : decode cX6_year 105 = .ok (.getfield 39, 3) := by decide +kernel
theorem dX6_year_108 : decode cX6_year 108 = .ok (.iload 6, 2) := by decide +kernel
theorem dX6_year_110 : decode cX6_year 110 = .ok (.iload 7, 2) := by decide +kernel
theorem dX6_year_112 : decode cX6_year 112 = .ok (.invokevirtual 289, 3) := by decide +kernel
theorem dX6_year_115 : decode cX6_year 115 = .ok (.iinc 5 1, 3) := by decide +kernel
theorem dX6_year_118 : decode cX6_year 118 = .ok (.goto (-65), 3) := by decide +kernel
theorem dX6_year_121 : decode cX6_year 121 = .ok (.iload_n 3, 1) := by decide +kernel
theorem dX6_year_122 : decode cX6_year 122 = .ok (.lookupswitch 42 #[(0, 26), (1, 34)], 26) := by decide +kernel
theorem dX6_year_148 : decode cX6_year 148 = .ok (.aload_n 0, 1) := by decide +kernel
theorem dX6_year_149 : decode cX6_year 149 = .ok (.getfield 39, 3) := by decide +kernel
theorem dX6_year_152 : decode cX6_year 152 = .ok (.invokevirtual 292, 3) := by decide +kernel
theorem dX6_year_155 : decode cX6_year 155 = .ok (.ireturn, 1) := by decide +kernel
theorem dX6_year_156 : decode cX6_year 156 = .ok (.aload_n 0, 1) := by decide +kernel
theorem dX6_year_157 : decode cX6_year 157 = .ok (.getfield 39, 3) := by decide +kernel
theorem dX6_year_160 : decode cX6_year 160 = .ok (.invokevirtual 109, 3) := by decide +kernel
theorem dX6_year_163 : decode cX6_year 163 = .ok (.ireturn, 1) := by decide +kernel
theorem dX6_year_164 : decode cX6_year 164 = .ok (.aload_n 0, 1) := by decide +kernel
theorem dX6_year_165 : decode cX6_year 165 = .ok (.getfield 39, 3) := by decide +kernel
theorem dX6_year_168 : decode cX6_year 168 = .ok (.invokevirtual 133, 3) := by decide +kernel
theorem dX6_year_171 : decode cX6_year 171 = .ok (.ireturn, 1) := by decide +kernel
theorem dX6_image_0 : decode cX6_image 0 = .ok (.iload_n 1, 1) := by decide +kernel
theorem dX6_image_1 : decode cX6_image 1 = .ok (.invokestatic 157, 3) := by decide +kernel
theorem dX6_image_4 : decode cX6_image 4 = .ok (.ifCond .ne 6, 3) := by decide +kernel
theorem dX6_image_7 : decode cX6_image 7 = .ok (.bipush (-2), 2) := by decide +kernel
theorem dX6_image_9 : decode cX6_image 9 = .ok (.ireturn, 1) := by decide +kernel
theorem dX6_image_10 : decode cX6_image 10 = .ok (.aload_n 0, 1) := by decide +kernel
theorem dX6_image_11 : decode cX6_image 11 = .ok (.iload_n 1, 1) := by decide +kernel
theorem dX6_image_12 : decode cX6_image 12 = .ok (.invokevirtual 295, 3) := by decide +kernel
theorem dX6_image_15 : decode cX6_image 15 = .ok (.astore_n 2, 1) := by decide +kernel
theorem dX6_image_16 : decode cX6_image 16 = .ok (.aload_n 2, 1) := by decide +kernel
theorem dX6_image_17 : decode cX6_image 17 = .ok (.aload_n 0, 1) := by decide +kernel
theorem dX6_image_18 : decode cX6_image 18 = .ok (.getfield 10, 3) := by decide +kernel
theorem dX6_image_21 : decode cX6_image 21 = .ok (.invokevirtual 299, 3) := by decide +kernel
theorem dX6_image_24 : decode cX6_image 24 = .ok (.aload_n 2, 1) := by decide +kernel
theorem dX6_image_25 : decode cX6_image 25 = .ok (.invokevirtual 302, 3) := by decide +kernel
theorem dX6_image_28 : decode cX6_image 28 = .ok (.iconst 1, 1) := by decide +kernel
theorem dX6_image_29 : decode cX6_image 29 = .ok (.ireturn, 1) := by decide +kernel
theorem dX6_restore_0 : decode cX6_restore 0 = .ok (.iload_n 1, 1) := by decide +kernel
theorem dX6_restore_1 : decode cX6_restore 1 = .ok (.invokestatic 157, 3) := by decide +kernel
theorem dX6_restore_4 : decode cX6_restore 4 = .ok (.ifCond .ne 6, 3) := by decide +kernel
theorem dX6_restore_7 : decode cX6_restore 7 = .ok (.bipush (-2), 2) := by decide +kernel
theorem dX6_restore_9 : decode cX6_restore 9 = .ok (.ireturn, 1) := by decide +kernel
theorem dX6_restore_10 : decode cX6_restore 10 = .ok (.aload_n 0, 1) := by decide +kernel
theorem dX6_restore_11 : decode cX6_restore 11 = .ok (.iload_n 1, 1) := by decide +kernel
theorem dX6_restore_12 : decode cX6_restore 12 = .ok (.invokevirtual 295, 3) := by decide +kernel
theorem dX6_restore_15 : decode cX6_restore 15 = .ok (.astore_n 2, 1) := by decide +kernel
theorem dX6_restore_16 : decode cX6_restore 16 = .ok (.aload_n 2, 1) := by decide +kernel
theorem dX6_restore_17 : decode cX6_restore 17 = .ok (.invokevirtual 305, 3) := by decide +kernel
theorem dX6_restore_20 : decode cX6_restore 20 = .ok (.ifCond .ne 6, 3) := by decide +kernel
theorem dX6_restore_23 : decode cX6_restore 23 = .ok (.bipush (-3), 2) := by decide +kernel
theorem dX6_restore_25 : decode cX6_restore 25 = .ok (.ireturn, 1) := by decide +kernel
theorem dX6_restore_26 : decode cX6_restore 26 = .ok (.aload_n 0, 1) := by decide +kernel
theorem dX6_restore_27 : decode cX6_restore 27 = .ok (.getfield 10, 3) := by decide +kernel
theorem dX6_restore_30 : decode cX6_restore 30 = .ok (.aload_n 2, 1) := by decide +kernel
theorem dX6_restore_31 : decode cX6_restore 31 = .ok (.invokevirtual 299, 3) := by decide +kernel
theorem dX6_restore_34 : decode cX6_restore 34 = .ok (.iconst 1, 1) := by decide +kernel
theorem dX6_restore_35 : decode cX6_restore 35 = .ok (.ireturn, 1) := by decide +kernel
theorem dX6_told_0 : decode cX6_told 0 = .ok (.iload_n 1, 1) := by decide +kernel
theorem dX6_told_1 : decode cX6_told 1 = .ok (.tableswitch 72 0 3 #[31, 39, 50, 61], 31) := by decide +kernel
theorem dX6_told_32 : decode cX6_told 32 = .ok (.aload_n 0, 1) := by decide +kernel
theorem dX6_told_33 : decode cX6_told 33 = .ok (.getfield 25, 3) := by decide +kernel
theorem dX6_told_36 : decode cX6_told 36 = .ok (.invokevirtual 115, 3) := by decide +kernel
theorem dX6_told_39 : decode cX6_told 39 = .ok (.ireturn, 1) := by decide +kernel
theorem dX6_told_40 : decode cX6_told 40 = .ok (.aload_n 0, 1) := by decide +kernel
theorem dX6_told_41 : decode cX6_told 41 = .ok (.getfield 10, 3) := by decide +kernel
theorem dX6_told_44 : decode cX6_told 44 = .ok (.getfield 64, 3) := by decide +kernel
theorem dX6_told_47 : decode cX6_told 47 = .ok (.invokevirtual 271, 3) := by decide +kernel
theorem dX6_told_50 : decode cX6_told 50 = .ok (.ireturn, 1) := by decide +kernel
theorem dX6_told_51 : decode cX6_told 51 = .ok (.aload_n 0, 1) := by decide +kernel
theorem dX6_told_52 : decode cX6_told 52 = .ok (.getfield 10, 3) := by decide +kernel
theorem dX6_told_55 : decode cX6_told 55 = .ok (.getfield 185, 3) := by decide +kernel
theorem dX6_told_58 : decode cX6_told 58 = .ok (.invokevirtual 194, 3) := by decide +kernel
theorem dX6_told_61 : decode cX6_told 61 = .ok (.ireturn, 1) := by decide +kernel
theorem dX6_told_62 : decode cX6_told 62 = .ok (.aload_n 0, 1) := by decide +kernel
theorem dX6_told_63 : decode cX6_told 63 = .ok (.getfield 10, 3) := by decide +kernel
theorem dX6_told_66 : decode cX6_told 66 = .ok (.getfield 231, 3) := by decide +kernel
theorem dX6_told_69 : decode cX6_told 69 = .ok (.invokevirtual 240, 3) := by decide +kernel
theorem dX6_told_72 : decode cX6_told 72 = .ok (.ireturn, 1) := by decide +kernel
theorem dX6_told_73 : decode cX6_told 73 = .ok (.iload_n 1, 1) := by decide +kernel
theorem dX6_told_74 : decode cX6_told 74 = .ok (.bipush 10, 2) := by decide +kernel
theorem dX6_told_76 : decode cX6_told 76 = .ok (.bipush 99, 2) := by decide +kernel
theorem dX6_told_78 : decode cX6_told 78 = .ok (.invokestatic 60, 3) := by decide +kernel
theorem dX6_told_81 : decode cX6_told 81 = .ok (.ifCond .eq 18, 3) := by decide +kernel
theorem dX6_told_84 : decode cX6_told 84 = .ok (.aload_n 0, 1) := by decide +kernel
theorem dX6_told_85 : decode cX6_told 85 = .ok (.iload_n 1, 1) := by decide +kernel
theorem dX6_told_86 : decode cX6_told 86 = .ok (.bipush 10, 2) := by decide +kernel
theorem dX6_told_88 : decode cX6_told 88 = .ok (.idiv, 1) := by decide +kernel
theorem dX6_told_89 : decode cX6_told 89 = .ok (.iconst 1, 1) := by decide +kernel
theorem dX6_told_90 : decode cX6_told 90 = .ok (.isub, 1) := by decide +kernel
theorem dX6_told_91 : decode cX6_told 91 = .ok (.iload_n 1, 1) := by decide +kernel
theorem dX6_told_92 : decode cX6_told 92 = .ok (.bipush 10, 2) := by decide +kernel
theorem dX6_told_94 : decode cX6_told 94 = .ok (.irem, 1) := by decide +kernel
theorem dX6_told_95 : decode cX6_told 95 = .ok (.invokevirtual 308, 3) := by decide +kernel
theorem dX6_told_98 : decode cX6_told 98 = .ok (.ireturn, 1) := by decide +kernel
theorem dX6_told_99 : decode cX6_told 99 = .ok (.iload_n 1, 1) := by decide +kernel
theorem dX6_told_100 : decode cX6_told 100 = .ok (.bipush 100, 2) := by decide +kernel
theorem dX6_told_102 : decode cX6_told 102 = .ok (.sipush 199, 3) := by decide +kernel
theorem dX6_told_105 : decode cX6_told 105 = .ok (.invokestatic 60, 3) := by decide +kernel
theorem dX6_told_108 : decode cX6_told 108 = .ok (.ifCond .eq 12, 3) := by decide +kernel
theorem dX6_told_111 : decode cX6_told 111 = .ok (.aload_n 0, 1) := by decide +kernel
theorem dX6_told_112 : decode cX6_told 112 = .ok (.iload_n 1, 1) := by decide +kernel
theorem dX6_told_113 : decode cX6_told 113 = .ok (.bipush 100, 2) := by decide +kernel
theorem dX6_told_115 : decode cX6_told 115 = .ok (.isub, 1) := by decide +kernel
theorem dX6_told_116 : decode cX6_told 116 = .ok (.invokevirtual 311, 3) := by decide +kernel
theorem dX6_told_119 : decode cX6_told 119 = .ok (.ireturn, 1) := by decide +kernel
theorem dX6_told_120 : decode cX6_told 120 = .ok (.iload_n 1, 1) := by decide +kernel
theorem dX6_told_121 : decode cX6_told 121 = .ok (.sipush 200, 3) := by decide +kernel
theorem dX6_told_124 : decode cX6_told 124 = .ok (.if_icmp .lt 22, 3) := by decide +kernel
theorem dX6_told_127 : decode cX6_told 127 = .ok (.aload_n 0, 1) := by decide +kernel
theorem dX6_told_128 : decode cX6_told 128 = .ok (.iload_n 1, 1) := by decide +kernel
theorem dX6_told_129 : decode cX6_told 129 = .ok (.sipush 200, 3) := by decide +kernel
theorem dX6_told_132 : decode cX6_told 132 = .ok (.idiv, 1) := by decide +kernel
theorem dX6_told_133 : decode cX6_told 133 = .ok (.iconst 1, 1) := by decide +kernel
theorem dX6_told_134 : decode cX6_told 134 = .ok (.isub, 1) := by decide +kernel
theorem dX6_told_135 : decode cX6_told 135 = .ok (.iload_n 1, 1) := by decide +kernel
theorem dX6_told_136 : decode cX6_told 136 = .ok (.sipush 200, 3) := by decide +kernel
theorem dX6_told_139 : decode cX6_told 139 = .ok (.irem, 1) := by decide +kernel
theorem dX6_told_140 : decode cX6_told 140 = .ok (.invokevirtual 314, 3) := by decide +kernel
theorem dX6_told_143 : decode cX6_told 143 = .ok (.goto 5, 3) := by decide +kernel
theorem dX6_told_146 : decode cX6_told 146 = .ok (.bipush (-2), 2) := by decide +kernel
theorem dX6_told_148 : decode cX6_told 148 = .ok (.ireturn, 1) := by decide +kernel
theorem dX6_toldOfMan_0 : decode cX6_toldOfMan 0 = .ok (.aload_n 0, 1) := by decide +kernel
theorem dX6_toldOfMan_1 : decode cX6_toldOfMan 1 = .ok (.getfield 10, 3) := by decide +kernel
theorem dX6_toldOfMan_4 : decode cX6_toldOfMan 4 = .ok (.getfield 64, 3) := by decide +kernel
theorem dX6_toldOfMan_7 : decode cX6_toldOfMan 7 = .ok (.astore_n 3, 1) := by decide +kernel
theorem dX6_toldOfMan_8 : decode cX6_toldOfMan 8 = .ok (.aload_n 3, 1) := by decide +kernel
theorem dX6_toldOfMan_9 : decode cX6_toldOfMan 9 = .ok (.iload_n 1, 1) := by decide +kernel
theorem dX6_toldOfMan_10 : decode cX6_toldOfMan 10 = .ok (.invokevirtual 85, 3) := by decide +kernel
theorem dX6_toldOfMan_13 : decode cX6_toldOfMan 13 = .ok (.ifCond .ne 6, 3) := by decide +kernel
theorem dX6_toldOfMan_16 : decode cX6_toldOfMan 16 = .ok (.bipush (-2), 2) := by decide +kernel
theorem dX6_toldOfMan_18 : decode cX6_toldOfMan 18 = .ok (.ireturn, 1) := by decide +kernel
theorem dX6_toldOfMan_19 : decode cX6_toldOfMan 19 = .ok (.iload_n 2, 1) := by decide +kernel
theorem dX6_toldOfMan_20 : decode cX6_toldOfMan 20 = .ok (.tableswitch 95 0 5 #[40, 46, 52, 58, 72, 86], 40) := by decide +kernel
theorem dX6_toldOfMan_60 : decode cX6_toldOfMan 60 = .ok (.aload_n 3, 1) := by decide +kernel
theorem dX6_toldOfMan_61 : decode cX6_toldOfMan 61 = .ok (.iload_n 1, 1) := by decide +kernel
theorem dX6_toldOfMan_62 : decode cX6_toldOfMan 62 = .ok (.invokevirtual 136, 3) := by decide +kernel
theorem dX6_toldOfMan_65 : decode cX6_toldOfMan 65 = .ok (.ireturn, 1) := by decide +kernel
theorem dX6_toldOfMan_66 : decode cX6_toldOfMan 66 = .ok (.aload_n 3, 1) := by decide +kernel
theorem dX6_toldOfMan_67 : decode cX6_toldOfMan 67 = .ok (.iload_n 1, 1) := by decide +kernel
theorem dX6_toldOfMan_68 : decode cX6_toldOfMan 68 = .ok (.invokevirtual 139, 3) := by decide +kernel
theorem dX6_toldOfMan_71 : decode cX6_toldOfMan 71 = .ok (.ireturn, 1) := by decide +kernel
theorem dX6_toldOfMan_72 : decode cX6_toldOfMan 72 = .ok (.aload_n 3, 1) := by decide +kernel
theorem dX6_toldOfMan_73 : decode cX6_toldOfMan 73 = .ok (.iload_n 1, 1) := by decide +kernel
theorem dX6_toldOfMan_74 : decode cX6_toldOfMan 74 = .ok (.invokevirtual 142, 3) := by decide +kernel
theorem dX6_toldOfMan_77 : decode cX6_toldOfMan 77 = .ok (.ireturn, 1) := by decide +kernel
theorem dX6_toldOfMan_78 : decode cX6_toldOfMan 78 = .ok (.aload_n 3, 1) := by decide +kernel
theorem dX6_toldOfMan_79 : decode cX6_toldOfMan 79 = .ok (.iload_n 1, 1) := by decide +kernel
theorem dX6_toldOfMan_80 : decode cX6_toldOfMan 80 = .ok (.invokevirtual 317, 3) := by decide +kernel
theorem dX6_toldOfMan_83 : decode cX6_toldOfMan 83 = .ok (.ifCond .eq 7, 3) := by decide +kernel
theorem dX6_toldOfMan_86 : decode cX6_toldOfMan 86 = .ok (.iconst 1, 1) := by decide +kernel
theorem dX6_toldOfMan_87 : decode cX6_toldOfMan 87 = .ok (.goto 4, 3) := by decide +kernel
theorem dX6_toldOfMan_90 : decode cX6_toldOfMan 90 = .ok (.iconst 0, 1) := by decide +kernel
theorem dX6_toldOfMan_91 : decode cX6_toldOfMan 91 = .ok (.ireturn, 1) := by decide +kernel
theorem dX6_toldOfMan_92 : decode cX6_toldOfMan 92 = .ok (.aload_n 3, 1) := by decide +kernel
theorem dX6_toldOfMan_93 : decode cX6_toldOfMan 93 = .ok (.iload_n 1, 1) := by decide +kernel
theorem dX6_toldOfMan_94 : decode cX6_toldOfMan 94 = .ok (.invokevirtual 320, 3) := by decide +kernel
theorem dX6_toldOfMan_97 : decode cX6_toldOfMan 97 = .ok (.ifCond .eq 7, 3) := by decide +kernel
theorem dX6_toldOfMan_100 : decode cX6_toldOfMan 100 = .ok (.iconst 1, 1) := by decide +kernel
theorem dX6_toldOfMan_101 : decode cX6_toldOfMan 101 = .ok (.goto 4, 3) := by decide +kernel
theorem dX6_toldOfMan_104 : decode cX6_toldOfMan 104 = .ok (.iconst 0, 1) := by decide +kernel
theorem dX6_toldOfMan_105 : decode cX6_toldOfMan 105 = .ok (.ireturn, 1) := by decide +kernel
theorem dX6_toldOfMan_106 : decode cX6_toldOfMan 106 = .ok (.aload_n 3, 1) := by decide +kernel
theorem dX6_toldOfMan_107 : decode cX6_toldOfMan 107 = .ok (.iload_n 1, 1) := by decide +kernel
theorem dX6_toldOfMan_108 : decode cX6_toldOfMan 108 = .ok (.invokevirtual 96, 3) := by decide +kernel
theorem dX6_toldOfMan_111 : decode cX6_toldOfMan 111 = .ok (.invokestatic 100, 3) := by decide +kernel
theorem dX6_toldOfMan_114 : decode cX6_toldOfMan 114 = .ok (.ireturn, 1) := by decide +kernel
theorem dX6_toldOfMan_115 : decode cX6_toldOfMan 115 = .ok (.bipush (-2), 2) := by decide +kernel
theorem dX6_toldOfMan_117 : decode cX6_toldOfMan 117 = .ok (.ireturn, 1) := by decide +kernel
theorem dX6_toldOfCell_0 : decode cX6_toldOfCell 0 = .ok (.iload_n 1, 1) := by decide +kernel
theorem dX6_toldOfCell_1 : decode cX6_toldOfCell 1 = .ok (.invokestatic 56, 3) := by decide +kernel
theorem dX6_toldOfCell_4 : decode cX6_toldOfCell 4 = .ok (.ifCond .ne 6, 3) := by decide +kernel
theorem dX6_toldOfCell_7 : decode cX6_toldOfCell 7 = .ok (.bipush (-2), 2) := by decide +kernel
theorem dX6_toldOfCell_9 : decode cX6_toldOfCell 9 = .ok (.ireturn, 1) := by decide +kernel
theorem dX6_toldOfCell_10 : decode cX6_toldOfCell 10 = .ok (.aload_n 0, 1) := by decide +kernel
theorem dX6_toldOfCell_11 : decode cX6_toldOfCell 11 = .ok (.getfield 10, 3) := by decide +kernel
theorem dX6_toldOfCell_14 : decode cX6_toldOfCell 14 = .ok (.getfield 64, 3) := by decide +kernel
theorem dX6_toldOfCell_17 : decode cX6_toldOfCell 17 = .ok (.iload_n 1, 1) := by decide +kernel
theorem dX6_toldOfCell_18 : decode cX6_toldOfCell 18 = .ok (.invokevirtual 154, 3) := by decide +kernel
theorem dX6_toldOfCell_21 : decode cX6_toldOfCell 21 = .ok (.istore_n 2, 1) := by decide +kernel
theorem dX6_toldOfCell_22 : decode cX6_toldOfCell 22 = .ok (.bipush 10, 2) := by decide +kernel
theorem dX6_toldOfCell_24 : decode cX6_toldOfCell 24 = .ok (.aload_n 0, 1) := by decide +kernel
theorem dX6_toldOfCell_25 : decode cX6_toldOfCell 25 = .ok (.getfield 10, 3) := by decide +kernel
theorem dX6_toldOfCell_28 : decode cX6_toldOfCell 28 = .ok (.getfield 64, 3) := by decide +kernel
theorem dX6_toldOfCell_31 : decode cX6_toldOfCell 31 = .ok (.iload_n 1, 1) := by decide +kernel
theorem dX6_toldOfCell_32 : decode cX6_toldOfCell 32 = .ok (.invokevirtual 67, 3) := by decide +kernel
theorem dX6_toldOfCell_35 : decode cX6_toldOfCell 35 = .ok (.imul, 1) := by decide +kernel
theorem dX6_toldOfCell_36 : decode cX6_toldOfCell 36 = .ok (.iload_n 2, 1) := by decide +kernel
theorem dX6_toldOfCell_37 : decode cX6_toldOfCell 37 = .ok (.iconst (-1), 1) := by decide +kernel
theorem dX6_toldOfCell_38 : decode cX6_toldOfCell 38 = .ok (.if_icmp .ne 8, 3) := by decide +kernel
theorem dX6_toldOfCell_41 : decode cX6_toldOfCell 41 = .ok (.bipush 9, 2) := by decide +kernel
theorem dX6_toldOfCell_43 : decode cX6_toldOfCell 43 = .ok (.goto 4, 3) := by decide +kernel
theorem dX6_toldOfCell_46 : decode cX6_toldOfCell 46 = .ok (.iload_n 2, 1) := by decide +kernel
theorem dX6_toldOfCell_47 : decode cX6_toldOfCell 47 = .ok (.iadd, 1) := by decide +kernel
theorem dX6_toldOfCell_48 : decode cX6_toldOfCell 48 = .ok (.ireturn, 1) := by decide +kernel
theorem dX6_toldOfKnown_0 : decode cX6_toldOfKnown 0 = .ok (.aload_n 0, 1) := by decide +kernel
theorem dX6_toldOfKnown_1 : decode cX6_toldOfKnown 1 = .ok (.getfield 10, 3) := by decide +kernel
theorem dX6_toldOfKnown_4 : decode cX6_toldOfKnown 4 = .ok (.getfield 64, 3) := by decide +kernel
theorem dX6_toldOfKnown_7 : decode cX6_toldOfKnown 7 = .ok (.iload_n 1, 1) := by decide +kernel
theorem dX6_toldOfKnown_8 : decode cX6_toldOfKnown 8 = .ok (.invokevirtual 85, 3) := by decide +kernel
theorem dX6_toldOfKnown_11 : decode cX6_toldOfKnown 11 = .ok (.ifCond .eq 10, 3) := by decide +kernel
theorem dX6_toldOfKnown_14 : decode cX6_toldOfKnown 14 = .ok (.iload_n 2, 1) := by decide +kernel
theorem dX6_toldOfKnown_15 : decode cX6_toldOfKnown 15 = .ok (.invokestatic 56, 3) := by decide +kernel
theorem dX6_toldOfKnown_18 : decode cX6_toldOfKnown 18 = .ok (.ifCond .ne 6, 3) := by decide +kernel
theorem dX6_toldOfKnown_21 : decode cX6_toldOfKnown 21 = .ok (.bipush (-2), 2) := by decide +kernel
theorem dX6_toldOfKnown_23 : decode cX6_toldOfKnown 23 = .ok (.ireturn, 1) := by decide +kernel
theorem dX6_toldOfKnown_24 : decode cX6_toldOfKnown 24 = .ok (.aload_n 0, 1) := by decide +kernel
theorem dX6_toldOfKnown_25 : decode cX6_toldOfKnown 25 = .ok (.getfield 10, 3) := by decide +kernel
theorem dX6_toldOfKnown_28 : decode cX6_toldOfKnown 28 = .ok (.getfield 64, 3) := by decide +kernel
theorem dX6_toldOfKnown_31 : decode cX6_toldOfKnown 31 = .ok (.iload_n 1, 1) := by decide +kernel
theorem dX6_toldOfKnown_32 : decode cX6_toldOfKnown 32 = .ok (.iload_n 2, 1) := by decide +kernel
theorem dX6_toldOfKnown_33 : decode cX6_toldOfKnown 33 = .ok (.invokevirtual 323, 3) := by decide +kernel
theorem dX6_toldOfKnown_36 : decode cX6_toldOfKnown 36 = .ok (.ifCond .eq 7, 3) := by decide +kernel
theorem dX6_toldOfKnown_39 : decode cX6_toldOfKnown 39 = .ok (.iconst 1, 1) := by decide +kernel
theorem dX6_toldOfKnown_40 : decode cX6_toldOfKnown 40 = .ok (.goto 4, 3) := by decide +kernel
theorem dX6_toldOfKnown_43 : decode cX6_toldOfKnown 43 = .ok (.iconst 0, 1) := by decide +kernel
theorem dX6_toldOfKnown_44 : decode cX6_toldOfKnown 44 = .ok (.ireturn, 1) := by decide +kernel
theorem dX6_imageOf_0 : decode cX6_imageOf 0 = .ok (.iload_n 1, 1) := by decide +kernel
theorem dX6_imageOf_1 : decode cX6_imageOf 1 = .ok (.ifCond .ne 10, 3) := by decide +kernel
theorem dX6_imageOf_4 : decode cX6_imageOf 4 = .ok (.aload_n 0, 1) := by decide +kernel
theorem dX6_imageOf_5 : decode cX6_imageOf 5 = .ok (.getfield 16, 3) := by decide +kernel
theorem dX6_imageOf_8 : decode cX6_imageOf 8 = .ok (.goto 7, 3) := by decide +kernel
theorem dX6_imageOf_11 : decode cX6_imageOf 11 = .ok (.aload_n 0, 1) := by decide +kernel
theorem dX6_imageOf_12 : decode cX6_imageOf 12 = .ok (.getfield 19, 3) := by decide +kernel
theorem dX6_imageOf_15 : decode cX6_imageOf 15 = .ok (.areturn, 1) := by decide +kernel
theorem dX6_leadAt_0 : decode cX6_leadAt 0 = .ok (.iload_n 1, 1) := by decide +kernel
theorem dX6_leadAt_1 : decode cX6_leadAt 1 = .ok (.ifCond .lt 21, 3) := by decide +kernel
theorem dX6_leadAt_4 : decode cX6_leadAt 4 = .ok (.iload_n 1, 1) := by decide +kernel
theorem dX6_leadAt_5 : decode cX6_leadAt 5 = .ok (.aload_n 0, 1) := by decide +kernel
theorem dX6_leadAt_6 : decode cX6_leadAt 6 = .ok (.getfield 47, 3) := by decide +kernel
theorem dX6_leadAt_9 : decode cX6_leadAt 9 = .ok (.arraylength, 1) := by decide +kernel
theorem dX6_leadAt_10 : decode cX6_leadAt 10 = .ok (.if_icmp .ge 12, 3) := by decide +kernel
theorem dX6_leadAt_13 : decode cX6_leadAt 13 = .ok (.aload_n 0, 1) := by decide +kernel
theorem dX6_leadAt_14 : decode cX6_leadAt 14 = .ok (.getfield 47, 3) := by decide +kernel
theorem dX6_leadAt_17 : decode cX6_leadAt 17 = .ok (.iload_n 1, 1) := by decide +kernel
theorem dX6_leadAt_18 : decode cX6_leadAt 18 = .ok (.iaload, 1) := by decide +kernel
theorem dX6_leadAt_19 : decode cX6_leadAt 19 = .ok (.goto 4, 3) := by decide +kernel
theorem dX6_leadAt_22 : decode cX6_leadAt 22 = .ok (.iconst 0, 1) := by decide +kernel
theorem dX6_leadAt_23 : decode cX6_leadAt 23 = .ok (.ireturn, 1) := by decide +kernel
theorem dX6_findLeads_0 : decode cX6_findLeads 0 = .ok (.iconst 0, 1) := by decide +kernel
theorem dX6_findLeads_1 : decode cX6_findLeads 1 = .ok (.istore_n 2, 1) := by decide +kernel
theorem dX6_findLeads_2 : decode cX6_findLeads 2 = .ok (.iload_n 2, 1) := by decide +kernel
theorem dX6_findLeads_3 : decode cX6_findLeads 3 = .ok (.aload_n 0, 1) := by decide +kernel
theorem dX6_findLeads_4 : decode cX6_findLeads 4 = .ok (.getfield 47, 3) := by decide +kernel
theorem dX6_findLeads_7 : decode cX6_findLeads 7 = .ok (.arraylength, 1) := by decide +kernel
theorem dX6_findLeads_8 : decode cX6_findLeads 8 = .ok (.if_icmp .ge 74, 3) := by decide +kernel
theorem dX6_findLeads_11 : decode cX6_findLeads 11 = .ok (.iload_n 2, 1) := by decide +kernel
theorem dX6_findLeads_12 : decode cX6_findLeads 12 = .ok (.iload_n 1, 1) := by decide +kernel
theorem dX6_findLeads_13 : decode cX6_findLeads 13 = .ok (.iadd, 1) := by decide +kernel
theorem dX6_findLeads_14 : decode cX6_findLeads 14 = .ok (.bipush 6, 2) := by decide +kernel
theorem dX6_findLeads_16 : decode cX6_findLeads 16 = .ok (.if_icmp .gt 66, 3) := by decide +kernel
theorem dX6_findLeads_19 : decode cX6_findLeads 19 = .ok (.iload_n 1, 1) := by decide +kernel
theorem dX6_findLeads_20 : decode cX6_findLeads 20 = .ok (.iconst 1, 1) := by decide +kernel
theorem dX6_findLeads_21 : decode cX6_findLeads 21 = .ok (.if_icmp .ne 17, 3) := by decide +kernel
theorem dX6_findLeads_24 : decode cX6_findLeads 24 = .ok (.aload_n 0, 1) := by decide +kernel
theorem dX6_findLeads_25 : decode cX6_findLeads 25 = .ok (.getfield 47, 3) := by decide +kernel
theorem dX6_findLeads_28 : decode cX6_findLeads 28 = .ok (.iload_n 2, 1) := by decide +kernel
theorem dX6_findLeads_29 : decode cX6_findLeads 29 = .ok (.aload_n 0, 1) := by decide +kernel
theorem dX6_findLeads_30 : decode cX6_findLeads 30 = .ok (.iload_n 2, 1) := by decide +kernel
theorem dX6_findLeads_31 : decode cX6_findLeads 31 = .ok (.invokevirtual 225, 3) := by decide +kernel
theorem dX6_findLeads_34 : decode cX6_findLeads 34 = .ok (.iastore, 1) := by decide +kernel
theorem dX6_findLeads_35 : decode cX6_findLeads 35 = .ok (.goto 41, 3) := by decide +kernel
theorem dX6_findLeads_38 : decode cX6_findLeads 38 = .ok (.aload_n 0, 1) := by decide +kernel
theorem dX6_findLeads_39 : decode cX6_findLeads 39 = .ok (.getfield 47, 3) := by decide +kernel
theorem dX6_findLeads_42 : decode cX6_findLeads 42 = .ok (.iload_n 2, 1) := by decide +kernel
theorem dX6_findLeads_43 : decode cX6_findLeads 43 = .ok (.aload_n 0, 1) := by decide +kernel
theorem dX6_findLeads_44 : decode cX6_findLeads 44 = .ok (.iload_n 2, 1) := by decide +kernel
theorem dX6_findLeads_45 : decode cX6_findLeads 45 = .ok (.invokevirtual 225, 3) := by decide +kernel
theorem dX6_findLeads_48 : decode cX6_findLeads 48 = .ok (.aload_n 0, 1) := by decide +kernel
theorem dX6_findLeads_49 : decode cX6_findLeads 49 = .ok (.iload_n 2, 1) := by decide +kernel
theorem dX6_findLeads_50 : decode cX6_findLeads 50 = .ok (.iconst 1, 1) := by decide +kernel
theorem dX6_findLeads_51 : decode cX6_findLeads 51 = .ok (.iadd, 1) := by decide +kernel
theorem dX6_findLeads_52 : decode cX6_findLeads 52 = .ok (.invokevirtual 265, 3) := by decide +kernel
theorem dX6_findLeads_55 : decode cX6_findLeads 55 = .ok (.isub, 1) := by decide +kernel
theorem dX6_findLeads_56 : decode cX6_findLeads 56 = .ok (.aload_n 0, 1) := by decide +kernel
theorem dX6_findLeads_57 : decode cX6_findLeads 57 = .ok (.iload_n 2, 1) := by decide +kernel
theorem dX6_findLeads_58 : decode cX6_findLeads 58 = .ok (.iload_n 1, 1) := by decide +kernel
theorem dX6_findLeads_59 : decode cX6_findLeads 59 = .ok (.iadd, 1) := by decide +kernel
theorem dX6_findLeads_60 : decode cX6_findLeads 60 = .ok (.iconst 1, 1) := by decide +kernel
theorem dX6_findLeads_61 : decode cX6_findLeads 61 = .ok (.isub, 1) := by decide +kernel
theorem dX6_findLeads_62 : decode cX6_findLeads 62 = .ok (.invokevirtual 225, 3) := by decide +kernel
theorem dX6_findLeads_65 : decode cX6_findLeads 65 = .ok (.aload_n 0, 1) := by decide +kernel
theorem dX6_findLeads_66 : decode cX6_findLeads 66 = .ok (.getfield 47, 3) := by decide +kernel
theorem dX6_findLeads_69 : decode cX6_findLeads 69 = .ok (.iload_n 2, 1) := by decide +kernel
theorem dX6_findLeads_70 : decode cX6_findLeads 70 = .ok (.iaload, 1) := by decide +kernel
theorem dX6_findLeads_71 : decode cX6_findLeads 71 = .ok (.isub, 1) := by decide +kernel
theorem dX6_findLeads_72 : decode cX6_findLeads 72 = .ok (.invokestatic 257, 3) := by decide +kernel
theorem dX6_findLeads_75 : decode cX6_findLeads 75 = .ok (.iastore, 1) := by decide +kernel
theorem dX6_findLeads_76 : decode cX6_findLeads 76 = .ok (.iinc 2 1, 3) := by decide +kernel
theorem dX6_findLeads_79 : decode cX6_findLeads 79 = .ok (.goto (-77), 3) := by decide +kernel
theorem dX6_findLeads_82 : decode cX6_findLeads 82 = .ok (.return_, 1) := by decide +kernel
theorem dX6_hearWithAndWithoutCold_0 : decode cX6_hearWithAndWithoutCold 0 = .ok (.aload_n 0, 1) := by decide +kernel
theorem dX6_hearWithAndWithoutCold_1 : decode cX6_hearWithAndWithoutCold 1 = .ok (.getfield 10, 3) := by decide +kernel
theorem dX6_hearWithAndWithoutCold_4 : decode cX6_hearWithAndWithoutCold 4 = .ok (.getfield 64, 3) := by decide +kernel
theorem dX6_hearWithAndWithoutCold_7 : decode cX6_hearWithAndWithoutCold 7 = .ok (.astore_n 2, 1) := by decide +kernel
theorem dX6_hearWithAndWithoutCold_8 : decode cX6_hearWithAndWithoutCold 8 = .ok (.iconst 0, 1) := by decide +kernel
theorem dX6_hearWithAndWithoutCold_9 : decode cX6_hearWithAndWithoutCold 9 = .ok (.istore_n 3, 1) := by decide +kernel
theorem dX6_hearWithAndWithoutCold_10 : decode cX6_hearWithAndWithoutCold 10 = .ok (.iload_n 3, 1) := by decide +kernel
theorem dX6_hearWithAndWithoutCold_11 : decode cX6_hearWithAndWithoutCold 11 = .ok (.bipush 6, 2) := by decide +kernel
theorem dX6_hearWithAndWithoutCold_13 : decode cX6_hearWithAndWithoutCold 13 = .ok (.if_icmp .ge 58, 3) := by decide +kernel
theorem dX6_hearWithAndWithoutCold_16 : decode cX6_hearWithAndWithoutCold 16 = .ok (.aload_n 2, 1) := by decide +kernel
theorem dX6_hearWithAndWithoutCold_17 : decode cX6_hearWithAndWithoutCold 17 = .ok (.iload_n 3, 1) := by decide +kernel
theorem dX6_hearWithAndWithoutCold_18 : decode cX6_hearWithAndWithoutCold 18 = .ok (.invokevirtual 136, 3) := by decide +kernel
theorem dX6_hearWithAndWithoutCold_21 : decode cX6_hearWithAndWithoutCold 21 = .ok (.iload_n 1, 1) := by decide +kernel
theorem dX6_hearWithAndWithoutCold_22 : decode cX6_hearWithAndWithoutCold 22 = .ok (.invokestatic 215, 3) := by decide +kernel
theorem dX6_hearWithAndWithoutCold_25 : decode cX6_hearWithAndWithoutCold 25 = .ok (.istore 4, 2) := by decide +kernel
theorem dX6_hearWithAndWithoutCold_27 : decode cX6_hearWithAndWithoutCold 27 = .ok (.aload_n 0, 1) := by decide +kernel
theorem dX6_hearWithAndWithoutCold_28 : decode cX6_hearWithAndWithoutCold 28 = .ok (.getfield 50, 3) := by decide +kernel
theorem dX6_hearWithAndWithoutCold_31 : decode cX6_hearWithAndWithoutCold 31 = .ok (.iload_n 3, 1) := by decide +kernel
theorem dX6_hearWithAndWithoutCold_32 : decode cX6_hearWithAndWithoutCold 32 = .ok (.iconst 0, 1) := by decide +kernel
theorem dX6_hearWithAndWithoutCold_33 : decode cX6_hearWithAndWithoutCold 33 = .ok (.aload_n 2, 1) := by decide +kernel
theorem dX6_hearWithAndWithoutCold_34 : decode cX6_hearWithAndWithoutCold 34 = .ok (.iload_n 3, 1) := by decide +kernel
theorem dX6_hearWithAndWithoutCold_35 : decode cX6_hearWithAndWithoutCold 35 = .ok (.iconst 0, 1) := by decide +kernel
theorem dX6_hearWithAndWithoutCold_36 : decode cX6_hearWithAndWithoutCold 36 = .ok (.invokevirtual 326, 3) := by decide +kernel
theorem dX6_hearWithAndWithoutCold_39 : decode cX6_hearWithAndWithoutCold 39 = .ok (.iload 4, 2) := by decide +kernel
theorem dX6_hearWithAndWithoutCold_41 : decode cX6_hearWithAndWithoutCold 41 = .ok (.isub, 1) := by decide +kernel
theorem dX6_hearWithAndWithoutCold_42 : decode cX6_hearWithAndWithoutCold 42 = .ok (.invokestatic 257, 3) := by decide +kernel
theorem dX6_hearWithAndWithoutCold_45 : decode cX6_hearWithAndWithoutCold 45 = .ok (.iastore, 1) := by decide +kernel
theorem dX6_hearWithAndWithoutCold_46 : decode cX6_hearWithAndWithoutCold 46 = .ok (.aload_n 0, 1) := by decide +kernel
theorem dX6_hearWithAndWithoutCold_47 : decode cX6_hearWithAndWithoutCold 47 = .ok (.getfield 53, 3) := by decide +kernel
theorem dX6_hearWithAndWithoutCold_50 : decode cX6_hearWithAndWithoutCold 50 = .ok (.iload_n 3, 1) := by decide +kernel
theorem dX6_hearWithAndWithoutCold_51 : decode cX6_hearWithAndWithoutCold 51 = .ok (.iconst 0, 1) := by decide +kernel
theorem dX6_hearWithAndWithoutCold_52 : decode cX6_hearWithAndWithoutCold 52 = .ok (.aload_n 2, 1) := by decide +kernel
theorem dX6_hearWithAndWithoutCold_53 : decode cX6_hearWithAndWithoutCold 53 = .ok (.iload_n 3, 1) := by decide +kernel
theorem dX6_hearWithAndWithoutCold_54 : decode cX6_hearWithAndWithoutCold 54 = .ok (.iconst 1, 1) := by decide +kernel
theorem dX6_hearWithAndWithoutCold_55 : decode cX6_hearWithAndWithoutCold 55 = .ok (.invokevirtual 326, 3) := by decide +kernel
theorem dX6_hearWithAndWithoutCold_58 : decode cX6_hearWithAndWithoutCold 58 = .ok (.iload 4, 2) := by decide +kernel
theorem dX6_hearWithAndWithoutCold_60 : decode cX6_hearWithAndWithoutCold 60 = .ok (.isub, 1) := by decide +kernel
theorem dX6_hearWithAndWithoutCold_61 : decode cX6_hearWithAndWithoutCold 61 = .ok (.invokestatic 257, 3) := by decide +kernel
theorem dX6_hearWithAndWithoutCold_64 : decode cX6_hearWithAndWithoutCold 64 = .ok (.iastore, 1) := by decide +kernel
theorem dX6_hearWithAndWithoutCold_65 : decode cX6_hearWithAndWithoutCold 65 = .ok (.iinc 3 1, 3) := by decide +kernel
theorem dX6_hearWithAndWithoutCold_68 : decode cX6_hearWithAndWithoutCold 68 = .ok (.goto (-58), 3) := by decide +kernel
theorem dX6_hearWithAndWithoutCold_71 : decode cX6_hearWithAndWithoutCold 71 = .ok (.return_, 1) := by decide +kernel
theorem dX6_heardIfSick_0 : decode cX6_heardIfSick 0 = .ok (.iconst 0, 1) := by decide +kernel
theorem dX6_heardIfSick_1 : decode cX6_heardIfSick 1 = .ok (.istore_n 3, 1) := by decide +kernel
theorem dX6_heardIfSick_2 : decode cX6_heardIfSick 2 = .ok (.iconst 0, 1) := by decide +kernel
theorem dX6_heardIfSick_3 : decode cX6_heardIfSick 3 = .ok (.istore 4, 2) := by decide +kernel
theorem dX6_heardIfSick_5 : decode cX6_heardIfSick 5 = .ok (.iload 4, 2) := by decide +kernel
theorem dX6_heardIfSick_7 : decode cX6_heardIfSick 7 = .ok (.bipush 6, 2) := by decide +kernel
theorem dX6_heardIfSick_9 : decode cX6_heardIfSick 9 = .ok (.if_icmp .ge 47, 3) := by decide +kernel
theorem dX6_heardIfSick_12 : decode cX6_heardIfSick 12 = .ok (.iload_n 1, 1) := by decide +kernel
theorem dX6_heardIfSick_13 : decode cX6_heardIfSick 13 = .ok (.iload 4, 2) := by decide +kernel
theorem dX6_heardIfSick_15 : decode cX6_heardIfSick 15 = .ok (.invokestatic 330, 3) := by decide +kernel
theorem dX6_heardIfSick_18 : decode cX6_heardIfSick 18 = .ok (.ifCond .eq 32, 3) := by decide +kernel
theorem dX6_heardIfSick_21 : decode cX6_heardIfSick 21 = .ok (.iload_n 3, 1) := by decide +kernel
theorem dX6_heardIfSick_22 : decode cX6_heardIfSick 22 = .ok (.iload_n 2, 1) := by decide +kernel
theorem dX6_heardIfSick_23 : decode cX6_heardIfSick 23 = .ok (.iload 4, 2) := by decide +kernel
theorem dX6_heardIfSick_25 : decode cX6_heardIfSick 25 = .ok (.invokestatic 330, 3) := by decide +kernel
theorem dX6_heardIfSick_28 : decode cX6_heardIfSick 28 = .ok (.ifCond .eq 13, 3) := by decide +kernel
theorem dX6_heardIfSick_31 : decode cX6_heardIfSick 31 = .ok (.aload_n 0, 1) := by decide +kernel
theorem dX6_heardIfSick_32 : decode cX6_heardIfSick 32 = .ok (.getfield 53, 3) := by decide +kernel
theorem dX6_heardIfSick_35 : decode cX6_heardIfSick 35 = .ok (.iload 4, 2) := by decide +kernel
theorem dX6_heardIfSick_37 : decode cX6_heardIfSick 37 = .ok (.iaload, 1) := by decide +kernel
theorem dX6_heardIfSick_38 : decode cX6_heardIfSick 38 = .ok (.goto 10, 3) := by decide +kernel
theorem dX6_heardIfSick_41 : decode cX6_heardIfSick 41 = .ok (.aload_n 0, 1) := by decide +kernel
theorem dX6_heardIfSick_42 : decode cX6_heardIfSick 42 = .ok (.getfield 50, 3) := by decide +kernel
theorem dX6_heardIfSick_45 : decode cX6_heardIfSick 45 = .ok (.iload 4, 2) := by decide +kernel
theorem dX6_heardIfSick_47 : decode cX6_heardIfSick 47 = .ok (.iaload, 1) := by decide +kernel
theorem dX6_heardIfSick_48 : decode cX6_heardIfSick 48 = .ok (.iadd, 1) := by decide +kernel
theorem dX6_heardIfSick_49 : decode cX6_heardIfSick 49 = .ok (.istore_n 3, 1) := by decide +kernel
theorem dX6_heardIfSick_50 : decode cX6_heardIfSick 50 = .ok (.iinc 4 1, 3) := by decide +kernel
theorem dX6_heardIfSick_53 : decode cX6_heardIfSick 53 = .ok (.goto (-48), 3) := by decide +kernel
theorem dX6_heardIfSick_56 : decode cX6_heardIfSick 56 = .ok (.iload_n 3, 1) := by decide +kernel
theorem dX6_heardIfSick_57 : decode cX6_heardIfSick 57 = .ok (.ireturn, 1) := by decide +kernel
theorem dX6_weightOf_0 : decode cX6_weightOf 0 = .ok (.iload_n 2, 1) := by decide +kernel
theorem dX6_weightOf_1 : decode cX6_weightOf 1 = .ok (.iload_n 0, 1) := by decide +kernel
theorem dX6_weightOf_2 : decode cX6_weightOf 2 = .ok (.invokestatic 281, 3) := by decide +kernel
theorem dX6_weightOf_5 : decode cX6_weightOf 5 = .ok (.bipush 10, 2) := by decide +kernel
theorem dX6_weightOf_7 : decode cX6_weightOf 7 = .ok (.iload_n 2, 1) := by decide +kernel
theorem dX6_weightOf_8 : decode cX6_weightOf 8 = .ok (.isub, 1) := by decide +kernel
theorem dX6_weightOf_9 : decode cX6_weightOf 9 = .ok (.iload_n 1, 1) := by decide +kernel
theorem dX6_weightOf_10 : decode cX6_weightOf 10 = .ok (.invokestatic 281, 3) := by decide +kernel
theorem dX6_weightOf_13 : decode cX6_weightOf 13 = .ok (.lmul, 1) := by decide +kernel
theorem dX6_weightOf_14 : decode cX6_weightOf 14 = .ok (.lreturn, 1) := by decide +kernel
theorem dX6_power_0 : decode cX6_power 0 = .ok (.lconst 1, 1) := by decide +kernel
theorem dX6_power_1 : decode cX6_power 1 = .ok (.lstore_n 2, 1) := by decide +kernel
theorem dX6_power_2 : decode cX6_power 2 = .ok (.iconst 0, 1) := by decide +kernel
theorem dX6_power_3 : decode cX6_power 3 = .ok (.istore 4, 2) := by decide +kernel
theorem dX6_power_5 : decode cX6_power 5 = .ok (.iload 4, 2) := by decide +kernel
theorem dX6_power_7 : decode cX6_power 7 = .ok (.iload_n 1, 1) := by decide +kernel
theorem dX6_power_8 : decode cX6_power 8 = .ok (.if_icmp .ge 14, 3) := by decide +kernel
theorem dX6_power_11 : decode cX6_power 11 = .ok (.lload_n 2, 1) := by decide +kernel
theorem dX6_power_12 : decode cX6_power 12 = .ok (.iload_n 0, 1) := by decide +kernel
theorem dX6_power_13 : decode cX6_power 13 = .ok (.i2l, 1) := by decide +kernel
theorem dX6_power_14 : decode cX6_power 14 = .ok (.lmul, 1) := by decide +kernel
theorem dX6_power_15 : decode cX6_power 15 = .ok (.lstore_n 2, 1) := by decide +kernel
theorem dX6_power_16 : decode cX6_power 16 = .ok (.iinc 4 1, 3) := by decide +kernel
theorem dX6_power_19 : decode cX6_power 19 = .ok (.goto (-14), 3) := by decide +kernel
theorem dX6_power_22 : decode cX6_power 22 = .ok (.lload_n 2, 1) := by decide +kernel
theorem dX6_power_23 : decode cX6_power 23 = .ok (.lreturn, 1) := by decide +kernel
theorem dX6_partOfFraction_0 : decode cX6_partOfFraction 0 = .ok (.lload_n 0, 1) := by decide +kernel
theorem dX6_partOfFraction_1 : decode cX6_partOfFraction 1 = .ok (.lload_n 2, 1) := by decide +kernel
theorem dX6_partOfFraction_2 : decode cX6_partOfFraction 2 = .ok (.invokestatic 333, 3) := by decide +kernel
theorem dX6_partOfFraction_5 : decode cX6_partOfFraction 5 = .ok (.lstore 5, 2) := by decide +kernel
theorem dX6_partOfFraction_7 : decode cX6_partOfFraction 7 = .ok (.lload_n 2, 1) := by decide +kernel
theorem dX6_partOfFraction_8 : decode cX6_partOfFraction 8 = .ok (.lconst 0, 1) := by decide +kernel
theorem dX6_partOfFraction_9 : decode cX6_partOfFraction 9 = .ok (.lcmp, 1) := by decide +kernel
theorem dX6_partOfFraction_10 : decode cX6_partOfFraction 10 = .ok (.ifCond .eq 10, 3) := by decide +kernel
theorem dX6_partOfFraction_13 : decode cX6_partOfFraction 13 = .ok (.lload 5, 2) := by decide +kernel
theorem dX6_partOfFraction_15 : decode cX6_partOfFraction 15 = .ok (.lconst 0, 1) := by decide +kernel
theorem dX6_partOfFraction_16 : decode cX6_partOfFraction 16 = .ok (.lcmp, 1) := by decide +kernel
theorem dX6_partOfFraction_17 : decode cX6_partOfFraction 17 = .ok (.ifCond .ne 14, 3) := by decide +kernel
theorem dX6_partOfFraction_20 : decode cX6_partOfFraction 20 = .ok (.iload 4, 2) := by decide +kernel
theorem dX6_partOfFraction_22 : decode cX6_partOfFraction 22 = .ok (.ifCond .ne 7, 3) := by decide +kernel
theorem dX6_partOfFraction_25 : decode cX6_partOfFraction 25 = .ok (.lconst 0, 1) := by decide +kernel
theorem dX6_partOfFraction_26 : decode cX6_partOfFraction 26 = .ok (.goto 4, 3) := by decide +kernel
theorem dX6_partOfFraction_29 : decode cX6_partOfFraction 29 = .ok (.lconst 1, 1) := by decide +kernel
theorem dX6_partOfFraction_30 : decode cX6_partOfFraction 30 = .ok (.lreturn, 1) := by decide +kernel
theorem dX6_partOfFraction_31 : decode cX6_partOfFraction 31 = .ok (.iload 4, 2) := by decide +kernel
theorem dX6_partOfFraction_33 : decode cX6_partOfFraction 33 = .ok (.ifCond .ne 7, 3) := by decide +kernel
theorem dX6_partOfFraction_36 : decode cX6_partOfFraction 36 = .ok (.lload_n 0, 1) := by decide +kernel
theorem dX6_partOfFraction_37 : decode cX6_partOfFraction 37 = .ok (.goto 4, 3) := by decide +kernel
theorem dX6_partOfFraction_40 : decode cX6_partOfFraction 40 = .ok (.lload_n 2, 1) := by decide +kernel
theorem dX6_partOfFraction_41 : decode cX6_partOfFraction 41 = .ok (.lload 5, 2) := by decide +kernel
theorem dX6_partOfFraction_43 : decode cX6_partOfFraction 43 = .ok (.ldiv, 1) := by decide +kernel
theorem dX6_partOfFraction_44 : decode cX6_partOfFraction 44 = .ok (.lreturn, 1) := by decide +kernel
theorem dX6_greatestDivisor_0 : decode cX6_greatestDivisor 0 = .ok (.lload_n 0, 1) := by decide +kernel
theorem dX6_greatestDivisor_1 : decode cX6_greatestDivisor 1 = .ok (.lstore 4, 2) := by decide +kernel
theorem dX6_greatestDivisor_3 : decode cX6_greatestDivisor 3 = .ok (.lload_n 2, 1) := by decide +kernel
theorem dX6_greatestDivisor_4 : decode cX6_greatestDivisor 4 = .ok (.lstore 6, 2) := by decide +kernel
theorem dX6_greatestDivisor_6 : decode cX6_greatestDivisor 6 = .ok (.iconst 0, 1) := by decide +kernel
theorem dX6_greatestDivisor_7 : decode cX6_greatestDivisor 7 = .ok (.istore 8, 2) := by decide +kernel
theorem dX6_greatestDivisor_9 : decode cX6_greatestDivisor 9 = .ok (.iload 8, 2) := by decide +kernel
theorem dX6_greatestDivisor_11 : decode cX6_greatestDivisor 11 = .ok (.bipush 100, 2) := by decide +kernel
theorem dX6_greatestDivisor_13 : decode cX6_greatestDivisor 13 = .ok (.if_icmp .ge 31, 3) := by decide +kernel
theorem dX6_greatestDivisor_16 : decode cX6_greatestDivisor 16 = .ok (.lload 6, 2) := by decide +kernel
theorem dX6_greatestDivisor_18 : decode cX6_greatestDivisor 18 = .ok (.lconst 0, 1) := by decide +kernel
theorem dX6_greatestDivisor_19 : decode cX6_greatestDivisor 19 = .ok (.lcmp, 1) := by decide +kernel
theorem dX6_greatestDivisor_20 : decode cX6_greatestDivisor 20 = .ok (.ifCond .eq 24, 3) := by decide +kernel
theorem dX6_greatestDivisor_23 : decode cX6_greatestDivisor 23 = .ok (.lload 4, 2) := by decide +kernel
theorem dX6_greatestDivisor_25 : decode cX6_greatestDivisor 25 = .ok (.lload 6, 2) := by decide +kernel
theorem dX6_greatestDivisor_27 : decode cX6_greatestDivisor 27 = .ok (.lrem, 1) := by decide +kernel
theorem dX6_greatestDivisor_28 : decode cX6_greatestDivisor 28 = .ok (.lstore 9, 2) := by decide +kernel
theorem dX6_greatestDivisor_30 : decode cX6_greatestDivisor 30 = .ok (.lload 6, 2) := by decide +kernel
theorem dX6_greatestDivisor_32 : decode cX6_greatestDivisor 32 = .ok (.lstore 4, 2) := by decide +kernel
theorem dX6_greatestDivisor_34 : decode cX6_greatestDivisor 34 = .ok (.lload 9, 2) := by decide +kernel
theorem dX6_greatestDivisor_36 : decode cX6_greatestDivisor 36 = .ok (.lstore 6, 2) := by decide +kernel
theorem dX6_greatestDivisor_38 : decode cX6_greatestDivisor 38 = .ok (.iinc 8 1, 3) := by decide +kernel
theorem dX6_greatestDivisor_41 : decode cX6_greatestDivisor 41 = .ok (.goto (-32), 3) := by decide +kernel
theorem dX6_greatestDivisor_44 : decode cX6_greatestDivisor 44 = .ok (.lload 4, 2) := by decide +kernel
theorem dX6_greatestDivisor_46 : decode cX6_greatestDivisor 46 = .ok (.lreturn, 1) := by decide +kernel
theorem dX6_isWithin_0 : decode cX6_isWithin 0 = .ok (.iload_n 0, 1) := by decide +kernel
theorem dX6_isWithin_1 : decode cX6_isWithin 1 = .ok (.iload_n 1, 1) := by decide +kernel
theorem dX6_isWithin_2 : decode cX6_isWithin 2 = .ok (.if_icmp .lt 12, 3) := by decide +kernel
theorem dX6_isWithin_5 : decode cX6_isWithin 5 = .ok (.iload_n 0, 1) := by decide +kernel
theorem dX6_isWithin_6 : decode cX6_isWithin 6 = .ok (.iload_n 2, 1) := by decide +kernel
theorem dX6_isWithin_7 : decode cX6_isWithin 7 = .ok (.if_icmp .gt 7, 3) := by decide +kernel
theorem dX6_isWithin_10 : decode cX6_isWithin 10 = .ok (.iconst 1, 1) := by decide +kernel
theorem dX6_isWithin_11 : decode cX6_isWithin 11 = .ok (.goto 4, 3) := by decide +kernel
theorem dX6_isWithin_14 : decode cX6_isWithin 14 = .ok (.iconst 0, 1) := by decide +kernel
theorem dX6_isWithin_15 : decode cX6_isWithin 15 = .ok (.ireturn, 1) := by decide +kernel
theorem dX6_isZeroOrOne_0 : decode cX6_isZeroOrOne 0 = .ok (.iload_n 0, 1) := by decide +kernel
theorem dX6_isZeroOrOne_1 : decode cX6_isZeroOrOne 1 = .ok (.ifCond .eq 8, 3) := by decide +kernel
theorem dX6_isZeroOrOne_4 : decode cX6_isZeroOrOne 4 = .ok (.iload_n 0, 1) := by decide +kernel
theorem dX6_isZeroOrOne_5 : decode cX6_isZeroOrOne 5 = .ok (.iconst 1, 1) := by decide +kernel
theorem dX6_isZeroOrOne_6 : decode cX6_isZeroOrOne 6 = .ok (.if_icmp .ne 7, 3) := by decide +kernel
theorem dX6_isZeroOrOne_9 : decode cX6_isZeroOrOne 9 = .ok (.iconst 1, 1) := by decide +kernel
theorem dX6_isZeroOrOne_10 : decode cX6_isZeroOrOne 10 = .ok (.goto 4, 3) := by decide +kernel
theorem dX6_isZeroOrOne_13 : decode cX6_isZeroOrOne 13 = .ok (.iconst 0, 1) := by decide +kernel
theorem dX6_isZeroOrOne_14 : decode cX6_isZeroOrOne 14 = .ok (.ireturn, 1) := by decide +kernel
theorem dX6_isCell_0 : decode cX6_isCell 0 = .ok (.iload_n 0, 1) := by decide +kernel
theorem dX6_isCell_1 : decode cX6_isCell 1 = .ok (.ifCond .lt 13, 3) := by decide +kernel
theorem dX6_isCell_4 : decode cX6_isCell 4 = .ok (.iload_n 0, 1) := by decide +kernel
theorem dX6_isCell_5 : decode cX6_isCell 5 = .ok (.bipush 64, 2) := by decide +kernel
theorem dX6_isCell_7 : decode cX6_isCell 7 = .ok (.if_icmp .ge 7, 3) := by decide +kernel
theorem dX6_isCell_10 : decode cX6_isCell 10 = .ok (.iconst 1, 1) := by decide +kernel
theorem dX6_isCell_11 : decode cX6_isCell 11 = .ok (.goto 4, 3) := by decide +kernel
theorem dX6_isCell_14 : decode cX6_isCell 14 = .ok (.iconst 0, 1) := by decide +kernel
theorem dX6_isCell_15 : decode cX6_isCell 15 = .ok (.ireturn, 1) := by decide +kernel
theorem dX6_isManNumber_0 : decode cX6_isManNumber 0 = .ok (.iload_n 0, 1) := by decide +kernel
theorem dX6_isManNumber_1 : decode cX6_isManNumber 1 = .ok (.ifCond .lt 13, 3) := by decide +kernel
theorem dX6_isManNumber_4 : decode cX6_isManNumber 4 = .ok (.iload_n 0, 1) := by decide +kernel
theorem dX6_isManNumber_5 : decode cX6_isManNumber 5 = .ok (.bipush 6, 2) := by decide +kernel
theorem dX6_isManNumber_7 : decode cX6_isManNumber 7 = .ok (.if_icmp .ge 7, 3) := by decide +kernel
theorem dX6_isManNumber_10 : decode cX6_isManNumber 10 = .ok (.iconst 1, 1) := by decide +kernel
theorem dX6_isManNumber_11 : decode cX6_isManNumber 11 = .ok (.goto 4, 3) := by decide +kernel
theorem dX6_isManNumber_14 : decode cX6_isManNumber 14 = .ok (.iconst 0, 1) := by decide +kernel
theorem dX6_isManNumber_15 : decode cX6_isManNumber 15 = .ok (.ireturn, 1) := by decide +kernel
theorem dX6_hasBit_0 : decode cX6_hasBit 0 = .ok (.iload_n 1, 1) := by decide +kernel
theorem dX6_hasBit_1 : decode cX6_hasBit 1 = .ok (.ifCond .lt 22, 3) := by decide +kernel
theorem dX6_hasBit_4 : decode cX6_hasBit 4 = .ok (.iload_n 1, 1) := by decide +kernel
theorem dX6_hasBit_5 : decode cX6_hasBit 5 = .ok (.bipush 6, 2) := by decide +kernel
theorem dX6_hasBit_7 : decode cX6_hasBit 7 = .ok (.if_icmp .ge 16, 3) := by decide +kernel
theorem dX6_hasBit_10 : decode cX6_hasBit 10 = .ok (.iload_n 0, 1) := by decide +kernel
theorem dX6_hasBit_11 : decode cX6_hasBit 11 = .ok (.iload_n 1, 1) := by decide +kernel
theorem dX6_hasBit_12 : decode cX6_hasBit 12 = .ok (.ishr, 1) := by decide +kernel
theorem dX6_hasBit_13 : decode cX6_hasBit 13 = .ok (.iconst 1, 1) := by decide +kernel
theorem dX6_hasBit_14 : decode cX6_hasBit 14 = .ok (.iand, 1) := by decide +kernel
theorem dX6_hasBit_15 : decode cX6_hasBit 15 = .ok (.iconst 1, 1) := by decide +kernel
theorem dX6_hasBit_16 : decode cX6_hasBit 16 = .ok (.if_icmp .ne 7, 3) := by decide +kernel
theorem dX6_hasBit_19 : decode cX6_hasBit 19 = .ok (.iconst 1, 1) := by decide +kernel
theorem dX6_hasBit_20 : decode cX6_hasBit 20 = .ok (.goto 4, 3) := by decide +kernel
theorem dX6_hasBit_23 : decode cX6_hasBit 23 = .ok (.iconst 0, 1) := by decide +kernel
theorem dX6_hasBit_24 : decode cX6_hasBit 24 = .ok (.ireturn, 1) := by decide +kernel
theorem dX6_columnOf_0 : decode cX6_columnOf 0 = .ok (.iload_n 0, 1) := by decide +kernel
theorem dX6_columnOf_1 : decode cX6_columnOf 1 = .ok (.bipush 8, 2) := by decide +kernel
theorem dX6_columnOf_3 : decode cX6_columnOf 3 = .ok (.irem, 1) := by decide +kernel
theorem dX6_columnOf_4 : decode cX6_columnOf 4 = .ok (.ireturn, 1) := by decide +kernel
theorem dX6_rowOf_0 : decode cX6_rowOf 0 = .ok (.iload_n 0, 1) := by decide +kernel
theorem dX6_rowOf_1 : decode cX6_rowOf 1 = .ok (.bipush 8, 2) := by decide +kernel
theorem dX6_rowOf_3 : decode cX6_rowOf 3 = .ok (.idiv, 1) := by decide +kernel
theorem dX6_rowOf_4 : decode cX6_rowOf 4 = .ok (.ireturn, 1) := by decide +kernel
theorem dX6_distance_0 : decode cX6_distance 0 = .ok (.iload_n 0, 1) := by decide +kernel
theorem dX6_distance_1 : decode cX6_distance 1 = .ok (.invokestatic 337, 3) := by decide +kernel
theorem dX6_distance_4 : decode cX6_distance 4 = .ok (.iload_n 1, 1) := by decide +kernel
theorem dX6_distance_5 : decode cX6_distance 5 = .ok (.invokestatic 337, 3) := by decide +kernel
theorem dX6_distance_8 : decode cX6_distance 8 = .ok (.isub, 1) := by decide +kernel
theorem dX6_distance_9 : decode cX6_distance 9 = .ok (.invokestatic 340, 3) := by decide +kernel
theorem dX6_distance_12 : decode cX6_distance 12 = .ok (.iload_n 0, 1) := by decide +kernel
theorem dX6_distance_13 : decode cX6_distance 13 = .ok (.invokestatic 343, 3) := by decide +kernel
theorem dX6_distance_16 : decode cX6_distance 16 = .ok (.iload_n 1, 1) := by decide +kernel
theorem dX6_distance_17 : decode cX6_distance 17 = .ok (.invokestatic 343, 3) := by decide +kernel
theorem dX6_distance_20 : decode cX6_distance 20 = .ok (.isub, 1) := by decide +kernel
theorem dX6_distance_21 : decode cX6_distance 21 = .ok (.invokestatic 340, 3) := by decide +kernel
theorem dX6_distance_24 : decode cX6_distance 24 = .ok (.iadd, 1) := by decide +kernel
theorem dX6_distance_25 : decode cX6_distance 25 = .ok (.ireturn, 1) := by decide +kernel
theorem dJ6_bitCount_0f7a4_0 : decode cJ6_bitCount_0f7a4 0 = .ok (.iload_n 0, 1) := by decide +kernel
theorem dJ6_bitCount_0f7a4_1 : decode cJ6_bitCount_0f7a4 1 = .ok (.iload_n 0, 1) := by decide +kernel
theorem dJ6_bitCount_0f7a4_2 : decode cJ6_bitCount_0f7a4 2 = .ok (.iconst 1, 1) := by decide +kernel
theorem dJ6_bitCount_0f7a4_3 : decode cJ6_bitCount_0f7a4 3 = .ok (.iushr, 1) := by decide +kernel
theorem dJ6_bitCount_0f7a4_4 : decode cJ6_bitCount_0f7a4 4 = .ok (.ldc_w 265, 3) := by decide +kernel
theorem dJ6_bitCount_0f7a4_7 : decode cJ6_bitCount_0f7a4 7 = .ok (.iand, 1) := by decide +kernel
theorem dJ6_bitCount_0f7a4_8 : decode cJ6_bitCount_0f7a4 8 = .ok (.isub, 1) := by decide +kernel
theorem dJ6_bitCount_0f7a4_9 : decode cJ6_bitCount_0f7a4 9 = .ok (.istore_n 0, 1) := by decide +kernel
theorem dJ6_bitCount_0f7a4_10 : decode cJ6_bitCount_0f7a4 10 = .ok (.iload_n 0, 1) := by decide +kernel
theorem dJ6_bitCount_0f7a4_11 : decode cJ6_bitCount_0f7a4 11 = .ok (.ldc_w 266, 3) := by decide +kernel
theorem dJ6_bitCount_0f7a4_14 : decode cJ6_bitCount_0f7a4 14 = .ok (.iand, 1) := by decide +kernel
theorem dJ6_bitCount_0f7a4_15 : decode cJ6_bitCount_0f7a4 15 = .ok (.iload_n 0, 1) := by decide +kernel
theorem dJ6_bitCount_0f7a4_16 : decode cJ6_bitCount_0f7a4 16 = .ok (.iconst 2, 1) := by decide +kernel
theorem dJ6_bitCount_0f7a4_17 : decode cJ6_bitCount_0f7a4 17 = .ok (.iushr, 1) := by decide +kernel
theorem dJ6_bitCount_0f7a4_18 : decode cJ6_bitCount_0f7a4 18 = .ok (.ldc_w 266, 3) := by decide +kernel
theorem dJ6_bitCount_0f7a4_21 : decode cJ6_bitCount_0f7a4 21 = .ok (.iand, 1) := by decide +kernel
theorem dJ6_bitCount_0f7a4_22 : decode cJ6_bitCount_0f7a4 22 = .ok (.iadd, 1) := by decide +kernel
theorem dJ6_bitCount_0f7a4_23 : decode cJ6_bitCount_0f7a4 23 = .ok (.istore_n 0, 1) := by decide +kernel
theorem dJ6_bitCount_0f7a4_24 : decode cJ6_bitCount_0f7a4 24 = .ok (.iload_n 0, 1) := by decide +kernel
theorem dJ6_bitCount_0f7a4_25 : decode cJ6_bitCount_0f7a4 25 = .ok (.iload_n 0, 1) := by decide +kernel
theorem dJ6_bitCount_0f7a4_26 : decode cJ6_bitCount_0f7a4 26 = .ok (.iconst 4, 1) := by decide +kernel
theorem dJ6_bitCount_0f7a4_27 : decode cJ6_bitCount_0f7a4 27 = .ok (.iushr, 1) := by decide +kernel
theorem dJ6_bitCount_0f7a4_28 : decode cJ6_bitCount_0f7a4 28 = .ok (.iadd, 1) := by decide +kernel
theorem dJ6_bitCount_0f7a4_29 : decode cJ6_bitCount_0f7a4 29 = .ok (.ldc_w 267, 3) := by decide +kernel
theorem dJ6_bitCount_0f7a4_32 : decode cJ6_bitCount_0f7a4 32 = .ok (.iand, 1) := by decide +kernel
theorem dJ6_bitCount_0f7a4_33 : decode cJ6_bitCount_0f7a4 33 = .ok (.istore_n 0, 1) := by decide +kernel
theorem dJ6_bitCount_0f7a4_34 : decode cJ6_bitCount_0f7a4 34 = .ok (.iload_n 0, 1) := by decide +kernel
theorem dJ6_bitCount_0f7a4_35 : decode cJ6_bitCount_0f7a4 35 = .ok (.iload_n 0, 1) := by decide +kernel
theorem dJ6_bitCount_0f7a4_36 : decode cJ6_bitCount_0f7a4 36 = .ok (.bipush 8, 2) := by decide +kernel
theorem dJ6_bitCount_0f7a4_38 : decode cJ6_bitCount_0f7a4 38 = .ok (.iushr, 1) := by decide +kernel
theorem dJ6_bitCount_0f7a4_39 : decode cJ6_bitCount_0f7a4 39 = .ok (.iadd, 1) := by decide +kernel
theorem dJ6_bitCount_0f7a4_40 : decode cJ6_bitCount_0f7a4 40 = .ok (.istore_n 0, 1) := by decide +kernel
theorem dJ6_bitCount_0f7a4_41 : decode cJ6_bitCount_0f7a4 41 = .ok (.iload_n 0, 1) := by decide +kernel
theorem dJ6_bitCount_0f7a4_42 : decode cJ6_bitCount_0f7a4 42 = .ok (.iload_n 0, 1) := by decide +kernel
theorem dJ6_bitCount_0f7a4_43 : decode cJ6_bitCount_0f7a4 43 = .ok (.bipush 16, 2) := by decide +kernel
theorem dJ6_bitCount_0f7a4_45 : decode cJ6_bitCount_0f7a4 45 = .ok (.iushr, 1) := by decide +kernel
theorem dJ6_bitCount_0f7a4_46 : decode cJ6_bitCount_0f7a4 46 = .ok (.iadd, 1) := by decide +kernel
theorem dJ6_bitCount_0f7a4_47 : decode cJ6_bitCount_0f7a4 47 = .ok (.istore_n 0, 1) := by decide +kernel
theorem dJ6_bitCount_0f7a4_48 : decode cJ6_bitCount_0f7a4 48 = .ok (.iload_n 0, 1) := by decide +kernel
theorem dJ6_bitCount_0f7a4_49 : decode cJ6_bitCount_0f7a4 49 = .ok (.bipush 63, 2) := by decide +kernel
theorem dJ6_bitCount_0f7a4_51 : decode cJ6_bitCount_0f7a4 51 = .ok (.iand, 1) := by decide +kernel
theorem dJ6_bitCount_0f7a4_52 : decode cJ6_bitCount_0f7a4 52 = .ok (.ireturn, 1) := by decide +kernel
theorem dJ13_bitCount_95d88_0 : decode cJ13_bitCount_95d88 0 = .ok (.lload_n 0, 1) := by decide +kernel
theorem dJ13_bitCount_95d88_1 : decode cJ13_bitCount_95d88 1 = .ok (.lload_n 0, 1) := by decide +kernel
theorem dJ13_bitCount_95d88_2 : decode cJ13_bitCount_95d88 2 = .ok (.iconst 1, 1) := by decide +kernel
theorem dJ13_bitCount_95d88_3 : decode cJ13_bitCount_95d88 3 = .ok (.lushr, 1) := by decide +kernel
theorem dJ13_bitCount_95d88_4 : decode cJ13_bitCount_95d88 4 = .ok (.ldc2_w 314, 3) := by decide +kernel
theorem dJ13_bitCount_95d88_7 : decode cJ13_bitCount_95d88 7 = .ok (.land, 1) := by decide +kernel
theorem dJ13_bitCount_95d88_8 : decode cJ13_bitCount_95d88 8 = .ok (.lsub, 1) := by decide +kernel
theorem dJ13_bitCount_95d88_9 : decode cJ13_bitCount_95d88 9 = .ok (.lstore_n 0, 1) := by decide +kernel
theorem dJ13_bitCount_95d88_10 : decode cJ13_bitCount_95d88 10 = .ok (.lload_n 0, 1) := by decide +kernel
theorem dJ13_bitCount_95d88_11 : decode cJ13_bitCount_95d88 11 = .ok (.ldc2_w 316, 3) := by decide +kernel
theorem dJ13_bitCount_95d88_14 : decode cJ13_bitCount_95d88 14 = .ok (.land, 1) := by decide +kernel
theorem dJ13_bitCount_95d88_15 : decode cJ13_bitCount_95d88 15 = .ok (.lload_n 0, 1) := by decide +kernel
theorem dJ13_bitCount_95d88_16 : decode cJ13_bitCount_95d88 16 = .ok (.iconst 2, 1) := by decide +kernel
theorem dJ13_bitCount_95d88_17 : decode cJ13_bitCount_95d88 17 = .ok (.lushr, 1) := by decide +kernel
theorem dJ13_bitCount_95d88_18 : decode cJ13_bitCount_95d88 18 = .ok (.ldc2_w 316, 3) := by decide +kernel
theorem dJ13_bitCount_95d88_21 : decode cJ13_bitCount_95d88 21 = .ok (.land, 1) := by decide +kernel
theorem dJ13_bitCount_95d88_22 : decode cJ13_bitCount_95d88 22 = .ok (.ladd, 1) := by decide +kernel
theorem dJ13_bitCount_95d88_23 : decode cJ13_bitCount_95d88 23 = .ok (.lstore_n 0, 1) := by decide +kernel
theorem dJ13_bitCount_95d88_24 : decode cJ13_bitCount_95d88 24 = .ok (.lload_n 0, 1) := by decide +kernel
theorem dJ13_bitCount_95d88_25 : decode cJ13_bitCount_95d88 25 = .ok (.lload_n 0, 1) := by decide +kernel
theorem dJ13_bitCount_95d88_26 : decode cJ13_bitCount_95d88 26 = .ok (.iconst 4, 1) := by decide +kernel
theorem dJ13_bitCount_95d88_27 : decode cJ13_bitCount_95d88 27 = .ok (.lushr, 1) := by decide +kernel
theorem dJ13_bitCount_95d88_28 : decode cJ13_bitCount_95d88 28 = .ok (.ladd, 1) := by decide +kernel
theorem dJ13_bitCount_95d88_29 : decode cJ13_bitCount_95d88 29 = .ok (.ldc2_w 318, 3) := by decide +kernel
theorem dJ13_bitCount_95d88_32 : decode cJ13_bitCount_95d88 32 = .ok (.land, 1) := by decide +kernel
theorem dJ13_bitCount_95d88_33 : decode cJ13_bitCount_95d88 33 = .ok (.lstore_n 0, 1) := by decide +kernel
theorem dJ13_bitCount_95d88_34 : decode cJ13_bitCount_95d88 34 = .ok (.lload_n 0, 1) := by decide +kernel
theorem dJ13_bitCount_95d88_35 : decode cJ13_bitCount_95d88 35 = .ok (.lload_n 0, 1) := by decide +kernel
theorem dJ13_bitCount_95d88_36 : decode cJ13_bitCount_95d88 36 = .ok (.bipush 8, 2) := by decide +kernel
theorem dJ13_bitCount_95d88_38 : decode cJ13_bitCount_95d88 38 = .ok (.lushr, 1) := by decide +kernel
theorem dJ13_bitCount_95d88_39 : decode cJ13_bitCount_95d88 39 = .ok (.ladd, 1) := by decide +kernel
theorem dJ13_bitCount_95d88_40 : decode cJ13_bitCount_95d88 40 = .ok (.lstore_n 0, 1) := by decide +kernel
theorem dJ13_bitCount_95d88_41 : decode cJ13_bitCount_95d88 41 = .ok (.lload_n 0, 1) := by decide +kernel
theorem dJ13_bitCount_95d88_42 : decode cJ13_bitCount_95d88 42 = .ok (.lload_n 0, 1) := by decide +kernel
theorem dJ13_bitCount_95d88_43 : decode cJ13_bitCount_95d88 43 = .ok (.bipush 16, 2) := by decide +kernel
theorem dJ13_bitCount_95d88_45 : decode cJ13_bitCount_95d88 45 = .ok (.lushr, 1) := by decide +kernel
theorem dJ13_bitCount_95d88_46 : decode cJ13_bitCount_95d88 46 = .ok (.ladd, 1) := by decide +kernel
theorem dJ13_bitCount_95d88_47 : decode cJ13_bitCount_95d88 47 = .ok (.lstore_n 0, 1) := by decide +kernel
theorem dJ13_bitCount_95d88_48 : decode cJ13_bitCount_95d88 48 = .ok (.lload_n 0, 1) := by decide +kernel
theorem dJ13_bitCount_95d88_49 : decode cJ13_bitCount_95d88 49 = .ok (.lload_n 0, 1) := by decide +kernel
theorem dJ13_bitCount_95d88_50 : decode cJ13_bitCount_95d88 50 = .ok (.bipush 32, 2) := by decide +kernel
theorem dJ13_bitCount_95d88_52 : decode cJ13_bitCount_95d88 52 = .ok (.lushr, 1) := by decide +kernel
theorem dJ13_bitCount_95d88_53 : decode cJ13_bitCount_95d88 53 = .ok (.ladd, 1) := by decide +kernel
theorem dJ13_bitCount_95d88_54 : decode cJ13_bitCount_95d88 54 = .ok (.lstore_n 0, 1) := by decide +kernel
theorem dJ13_bitCount_95d88_55 : decode cJ13_bitCount_95d88 55 = .ok (.lload_n 0, 1) := by decide +kernel
theorem dJ13_bitCount_95d88_56 : decode cJ13_bitCount_95d88 56 = .ok (.l2i, 1) := by decide +kernel
theorem dJ13_bitCount_95d88_57 : decode cJ13_bitCount_95d88 57 = .ok (.bipush 127, 2) := by decide +kernel
theorem dJ13_bitCount_95d88_59 : decode cJ13_bitCount_95d88 59 = .ok (.iand, 1) := by decide +kernel
theorem dJ13_bitCount_95d88_60 : decode cJ13_bitCount_95d88 60 = .ok (.ireturn, 1) := by decide +kernel
theorem dJ9_abs_0f7a4_0 : decode cJ9_abs_0f7a4 0 = .ok (.iload_n 0, 1) := by decide +kernel
theorem dJ9_abs_0f7a4_1 : decode cJ9_abs_0f7a4 1 = .ok (.ifCond .ge 8, 3) := by decide +kernel
theorem dJ9_abs_0f7a4_4 : decode cJ9_abs_0f7a4 4 = .ok (.iload_n 0, 1) := by decide +kernel
theorem dJ9_abs_0f7a4_5 : decode cJ9_abs_0f7a4 5 = .ok (.ineg, 1) := by decide +kernel
theorem dJ9_abs_0f7a4_6 : decode cJ9_abs_0f7a4 6 = .ok (.goto 4, 3) := by decide +kernel
theorem dJ9_abs_0f7a4_9 : decode cJ9_abs_0f7a4 9 = .ok (.iload_n 0, 1) := by decide +kernel
theorem dJ9_abs_0f7a4_10 : decode cJ9_abs_0f7a4 10 = .ok (.ireturn, 1) := by decide +kernel
theorem dJ9_max_7cf53_0 : decode cJ9_max_7cf53 0 = .ok (.iload_n 0, 1) := by decide +kernel
theorem dJ9_max_7cf53_1 : decode cJ9_max_7cf53 1 = .ok (.iload_n 1, 1) := by decide +kernel
theorem dJ9_max_7cf53_2 : decode cJ9_max_7cf53 2 = .ok (.if_icmp .lt 7, 3) := by decide +kernel
theorem dJ9_max_7cf53_5 : decode cJ9_max_7cf53 5 = .ok (.iload_n 0, 1) := by decide +kernel
theorem dJ9_max_7cf53_6 : decode cJ9_max_7cf53 6 = .ok (.goto 4, 3) := by decide +kernel
theorem dJ9_max_7cf53_9 : decode cJ9_max_7cf53 9 = .ok (.iload_n 1, 1) := by decide +kernel
theorem dJ9_max_7cf53_10 : decode cJ9_max_7cf53 10 = .ok (.ireturn, 1) := by decide +kernel
theorem dJ9_min_7cf53_0 : decode cJ9_min_7cf53 0 = .ok (.iload_n 0, 1) := by decide +kernel
theorem dJ9_min_7cf53_1 : decode cJ9_min_7cf53 1 = .ok (.iload_n 1, 1) := by decide +kernel
theorem dJ9_min_7cf53_2 : decode cJ9_min_7cf53 2 = .ok (.if_icmp .gt 7, 3) := by decide +kernel
theorem dJ9_min_7cf53_5 : decode cJ9_min_7cf53 5 = .ok (.iload_n 0, 1) := by decide +kernel
theorem dJ9_min_7cf53_6 : decode cJ9_min_7cf53 6 = .ok (.goto 4, 3) := by decide +kernel
theorem dJ9_min_7cf53_9 : decode cJ9_min_7cf53 9 = .ok (.iload_n 1, 1) := by decide +kernel
theorem dJ9_min_7cf53_10 : decode cJ9_min_7cf53 10 = .ok (.ireturn, 1) := by decide +kernel
