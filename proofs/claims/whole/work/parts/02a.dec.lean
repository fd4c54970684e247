theorem dO_init_0 : decode mO_init.2.1 0 = .ok (.aload_n 0, 1) := by decide +kernel
theorem dO_init_1 : decode mO_init.2.1 1 = .ok (.invokespecial 3, 3) := by decide +kernel
theorem dO_init_4 : decode mO_init.2.1 4 = .ok (.return_, 1) := by decide +kernel
theorem dO_takeShape_0 : decode mO_takeShape.2.1 0 = .ok (.aload_n 0, 1) := by decide +kernel
theorem dO_takeShape_1 : decode mO_takeShape.2.1 1 = .ok (.iload_n 1, 1) := by decide +kernel
theorem dO_takeShape_2 : decode mO_takeShape.2.1 2 = .ok (.putfield 9, 3) := by decide +kernel
theorem dO_takeShape_5 : decode mO_takeShape.2.1 5 = .ok (.aload_n 0, 1) := by decide +kernel
theorem dO_takeShape_6 : decode mO_takeShape.2.1 6 = .ok (.iload_n 2, 1) := by decide +kernel
theorem dO_takeShape_7 : decode mO_takeShape.2.1 7 = .ok (.putfield 15, 3) := by decide +kernel
theorem dO_takeShape_10 : decode mO_takeShape.2.1 10 = .ok (.return_, 1) := by decide +kernel
theorem dO_become_0 : decode mO_become.2.1 0 = .ok (.aload_n 0, 1) := by decide +kernel
theorem dO_become_1 : decode mO_become.2.1 1 = .ok (.iload_n 1, 1) := by decide +kernel
theorem dO_become_2 : decode mO_become.2.1 2 = .ok (.putfield 18, 3) := by decide +kernel
theorem dO_become_5 : decode mO_become.2.1 5 = .ok (.aload_n 0, 1) := by decide +kernel
theorem dO_become_6 : decode mO_become.2.1 6 = .ok (.iload_n 2, 1) := by decide +kernel
theorem dO_become_7 : decode mO_become.2.1 7 = .ok (.putfield 21, 3) := by decide +kernel
theorem dO_become_10 : decode mO_become.2.1 10 = .ok (.aload_n 0, 1) := by decide +kernel
theorem dO_become_11 : decode mO_become.2.1 11 = .ok (.iload_n 3, 1) := by decide +kernel
theorem dO_become_12 : decode mO_become.2.1 12 = .ok (.putfield 24, 3) := by decide +kernel
theorem dO_become_15 : decode mO_become.2.1 15 = .ok (.aload_n 0, 1) := by decide +kernel
theorem dO_become_16 : decode mO_become.2.1 16 = .ok (.iload 4, 2) := by decide +kernel
theorem dO_become_18 : decode mO_become.2.1 18 = .ok (.putfield 27, 3) := by decide +kernel
theorem dO_become_21 : decode mO_become.2.1 21 = .ok (.aload_n 0, 1) := by decide +kernel
theorem dO_become_22 : decode mO_become.2.1 22 = .ok (.iload 5, 2) := by decide +kernel
theorem dO_become_24 : decode mO_become.2.1 24 = .ok (.putfield 30, 3) := by decide +kernel
theorem dO_become_27 : decode mO_become.2.1 27 = .ok (.return_, 1) := by decide +kernel
theorem dO_becomeSplat_0 : decode mO_becomeSplat.2.1 0 = .ok (.aload_n 0, 1) := by decide +kernel
theorem dO_becomeSplat_1 : decode mO_becomeSplat.2.1 1 = .ok (.iconst 1, 1) := by decide +kernel
theorem dO_becomeSplat_2 : decode mO_becomeSplat.2.1 2 = .ok (.iconst (-1), 1) := by decide +kernel
theorem dO_becomeSplat_3 : decode mO_becomeSplat.2.1 3 = .ok (.iconst (-1), 1) := by decide +kernel
theorem dO_becomeSplat_4 : decode mO_becomeSplat.2.1 4 = .ok (.iload_n 1, 1) := by decide +kernel
theorem dO_becomeSplat_5 : decode mO_becomeSplat.2.1 5 = .ok (.iconst 0, 1) := by decide +kernel
theorem dO_becomeSplat_6 : decode mO_becomeSplat.2.1 6 = .ok (.invokevirtual 33, 3) := by decide +kernel
theorem dO_becomeSplat_9 : decode mO_becomeSplat.2.1 9 = .ok (.return_, 1) := by decide +kernel
theorem dO_copyFrom_0 : decode mO_copyFrom.2.1 0 = .ok (.aload_n 0, 1) := by decide +kernel
theorem dO_copyFrom_1 : decode mO_copyFrom.2.1 1 = .ok (.aload_n 1, 1) := by decide +kernel
theorem dO_copyFrom_2 : decode mO_copyFrom.2.1 2 = .ok (.getfield 9, 3) := by decide +kernel
theorem dO_copyFrom_5 : decode mO_copyFrom.2.1 5 = .ok (.aload_n 1, 1) := by decide +kernel
theorem dO_copyFrom_6 : decode mO_copyFrom.2.1 6 = .ok (.getfield 15, 3) := by decide +kernel
theorem dO_copyFrom_9 : decode mO_copyFrom.2.1 9 = .ok (.invokevirtual 37, 3) := by decide +kernel
theorem dO_copyFrom_12 : decode mO_copyFrom.2.1 12 = .ok (.aload_n 0, 1) := by decide +kernel
theorem dO_copyFrom_13 : decode mO_copyFrom.2.1 13 = .ok (.aload_n 1, 1) := by decide +kernel
theorem dO_copyFrom_14 : decode mO_copyFrom.2.1 14 = .ok (.getfield 18, 3) := by decide +kernel
theorem dO_copyFrom_17 : decode mO_copyFrom.2.1 17 = .ok (.aload_n 1, 1) := by decide +kernel
theorem dO_copyFrom_18 : decode mO_copyFrom.2.1 18 = .ok (.getfield 21, 3) := by decide +kernel
theorem dO_copyFrom_21 : decode mO_copyFrom.2.1 21 = .ok (.aload_n 1, 1) := by decide +kernel
theorem dO_copyFrom_22 : decode mO_copyFrom.2.1 22 = .ok (.getfield 24, 3) := by decide +kernel
theorem dO_copyFrom_25 : decode mO_copyFrom.2.1 25 = .ok (.aload_n 1, 1) := by decide +kernel
theorem dO_copyFrom_26 : decode mO_copyFrom.2.1 26 = .ok (.getfield 27, 3) := by decide +kernel
theorem dO_copyFrom_29 : decode mO_copyFrom.2.1 29 = .ok (.aload_n 1, 1) := by decide +kernel
theorem dO_copyFrom_30 : decode mO_copyFrom.2.1 30 = .ok (.getfield 30, 3) := by decide +kernel
theorem dO_copyFrom_33 : decode mO_copyFrom.2.1 33 = .ok (.invokevirtual 33, 3) := by decide +kernel
theorem dO_copyFrom_36 : decode mO_copyFrom.2.1 36 = .ok (.return_, 1) := by decide +kernel
theorem dO_isSplatOf_0 : decode mO_isSplatOf.2.1 0 = .ok (.aload_n 0, 1) := by decide +kernel
theorem dO_isSplatOf_1 : decode mO_isSplatOf.2.1 1 = .ok (.getfield 18, 3) := by decide +kernel
theorem dO_isSplatOf_4 : decode mO_isSplatOf.2.1 4 = .ok (.iconst 1, 1) := by decide +kernel
theorem dO_isSplatOf_5 : decode mO_isSplatOf.2.1 5 = .ok (.if_icmp .ne 15, 3) := by decide +kernel
theorem dO_isSplatOf_8 : decode mO_isSplatOf.2.1 8 = .ok (.aload_n 0, 1) := by decide +kernel
theorem dO_isSplatOf_9 : decode mO_isSplatOf.2.1 9 = .ok (.getfield 27, 3) := by decide +kernel
theorem dO_isSplatOf_12 : decode mO_isSplatOf.2.1 12 = .ok (.iload_n 1, 1) := by decide +kernel
theorem dO_isSplatOf_13 : decode mO_isSplatOf.2.1 13 = .ok (.if_icmp .ne 7, 3) := by decide +kernel
theorem dO_isSplatOf_16 : decode mO_isSplatOf.2.1 16 = .ok (.iconst 1, 1) := by decide +kernel
theorem dO_isSplatOf_17 : decode mO_isSplatOf.2.1 17 = .ok (.goto 4, 3) := by decide +kernel
theorem dO_isSplatOf_20 : decode mO_isSplatOf.2.1 20 = .ok (.iconst 0, 1) := by decide +kernel
theorem dO_isSplatOf_21 : decode mO_isSplatOf.2.1 21 = .ok (.ireturn, 1) := by decide +kernel
theorem dO_takesPairs_0 : decode mO_takesPairs.2.1 0 = .ok (.aload_n 0, 1) := by decide +kernel
theorem dO_takesPairs_1 : decode mO_takesPairs.2.1 1 = .ok (.getfield 18, 3) := by decide +kernel
theorem dO_takesPairs_4 : decode mO_takesPairs.2.1 4 = .ok (.iconst 3, 1) := by decide +kernel
theorem dO_takesPairs_5 : decode mO_takesPairs.2.1 5 = .ok (.if_icmp .eq 19, 3) := by decide +kernel
theorem dO_takesPairs_8 : decode mO_takesPairs.2.1 8 = .ok (.aload_n 0, 1) := by decide +kernel
theorem dO_takesPairs_9 : decode mO_takesPairs.2.1 9 = .ok (.getfield 18, 3) := by decide +kernel
theorem dO_takesPairs_12 : decode mO_takesPairs.2.1 12 = .ok (.iconst 4, 1) := by decide +kernel
theorem dO_takesPairs_13 : decode mO_takesPairs.2.1 13 = .ok (.if_icmp .eq 11, 3) := by decide +kernel
theorem dO_takesPairs_16 : decode mO_takesPairs.2.1 16 = .ok (.aload_n 0, 1) := by decide +kernel
theorem dO_takesPairs_17 : decode mO_takesPairs.2.1 17 = .ok (.getfield 18, 3) := by decide +kernel
theorem dO_takesPairs_20 : decode mO_takesPairs.2.1 20 = .ok (.iconst 5, 1) := by decide +kernel
theorem dO_takesPairs_21 : decode mO_takesPairs.2.1 21 = .ok (.if_icmp .ne 7, 3) := by decide +kernel
theorem dO_takesPairs_24 : decode mO_takesPairs.2.1 24 = .ok (.iconst 1, 1) := by decide +kernel
theorem dO_takesPairs_25 : decode mO_takesPairs.2.1 25 = .ok (.goto 4, 3) := by decide +kernel
theorem dO_takesPairs_28 : decode mO_takesPairs.2.1 28 = .ok (.iconst 0, 1) := by decide +kernel
theorem dO_takesPairs_29 : decode mO_takesPairs.2.1 29 = .ok (.ireturn, 1) := by decide +kernel
theorem dO_isReshaping_0 : decode mO_isReshaping.2.1 0 = .ok (.aload_n 0, 1) := by decide +kernel
theorem dO_isReshaping_1 : decode mO_isReshaping.2.1 1 = .ok (.getfield 18, 3) := by decide +kernel
theorem dO_isReshaping_4 : decode mO_isReshaping.2.1 4 = .ok (.bipush 10, 2) := by decide +kernel
theorem dO_isReshaping_6 : decode mO_isReshaping.2.1 6 = .ok (.if_icmp .eq 21, 3) := by decide +kernel
theorem dO_isReshaping_9 : decode mO_isReshaping.2.1 9 = .ok (.aload_n 0, 1) := by decide +kernel
theorem dO_isReshaping_10 : decode mO_isReshaping.2.1 10 = .ok (.getfield 18, 3) := by decide +kernel
theorem dO_isReshaping_13 : decode mO_isReshaping.2.1 13 = .ok (.bipush 11, 2) := by decide +kernel
theorem dO_isReshaping_15 : decode mO_isReshaping.2.1 15 = .ok (.if_icmp .eq 12, 3) := by decide +kernel
theorem dO_isReshaping_18 : decode mO_isReshaping.2.1 18 = .ok (.aload_n 0, 1) := by decide +kernel
theorem dO_isReshaping_19 : decode mO_isReshaping.2.1 19 = .ok (.getfield 18, 3) := by decide +kernel
theorem dO_isReshaping_22 : decode mO_isReshaping.2.1 22 = .ok (.bipush 12, 2) := by decide +kernel
theorem dO_isReshaping_24 : decode mO_isReshaping.2.1 24 = .ok (.if_icmp .ne 7, 3) := by decide +kernel
theorem dO_isReshaping_27 : decode mO_isReshaping.2.1 27 = .ok (.iconst 1, 1) := by decide +kernel
theorem dO_isReshaping_28 : decode mO_isReshaping.2.1 28 = .ok (.goto 4, 3) := by decide +kernel
theorem dO_isReshaping_31 : decode mO_isReshaping.2.1 31 = .ok (.iconst 0, 1) := by decide +kernel
theorem dO_isReshaping_32 : decode mO_isReshaping.2.1 32 = .ok (.ireturn, 1) := by decide +kernel
theorem dO_hasShapeOf_0 : decode mO_hasShapeOf.2.1 0 = .ok (.aload_n 0, 1) := by decide +kernel
theorem dO_hasShapeOf_1 : decode mO_hasShapeOf.2.1 1 = .ok (.getfield 9, 3) := by decide +kernel
theorem dO_hasShapeOf_4 : decode mO_hasShapeOf.2.1 4 = .ok (.aload_n 1, 1) := by decide +kernel
theorem dO_hasShapeOf_5 : decode mO_hasShapeOf.2.1 5 = .ok (.getfield 9, 3) := by decide +kernel
theorem dO_hasShapeOf_8 : decode mO_hasShapeOf.2.1 8 = .ok (.if_icmp .ne 18, 3) := by decide +kernel
theorem dO_hasShapeOf_11 : decode mO_hasShapeOf.2.1 11 = .ok (.aload_n 0, 1) := by decide +kernel
theorem dO_hasShapeOf_12 : decode mO_hasShapeOf.2.1 12 = .ok (.getfield 15, 3) := by decide +kernel
theorem dO_hasShapeOf_15 : decode mO_hasShapeOf.2.1 15 = .ok (.aload_n 1, 1) := by decide +kernel
theorem dO_hasShapeOf_16 : decode mO_hasShapeOf.2.1 16 = .ok (.getfield 15, 3) := by decide +kernel
theorem dO_hasShapeOf_19 : decode mO_hasShapeOf.2.1 19 = .ok (.if_icmp .ne 7, 3) := by decide +kernel
theorem dO_hasShapeOf_22 : decode mO_hasShapeOf.2.1 22 = .ok (.iconst 1, 1) := by decide +kernel
theorem dO_hasShapeOf_23 : decode mO_hasShapeOf.2.1 23 = .ok (.goto 4, 3) := by decide +kernel
theorem dO_hasShapeOf_26 : decode mO_hasShapeOf.2.1 26 = .ok (.iconst 0, 1) := by decide +kernel
theorem dO_hasShapeOf_27 : decode mO_hasShapeOf.2.1 27 = .ok (.ireturn, 1) := by decide +kernel
theorem dO_isLike_0 : decode mO_isLike.2.1 0 = .ok (.aload_n 0, 1) := by decide +kernel
theorem dO_isLike_1 : decode mO_isLike.2.1 1 = .ok (.getfield 18, 3) := by decide +kernel
theorem dO_isLike_4 : decode mO_isLike.2.1 4 = .ok (.aload_n 1, 1) := by decide +kernel
theorem dO_isLike_5 : decode mO_isLike.2.1 5 = .ok (.getfield 18, 3) := by decide +kernel
theorem dO_isLike_8 : decode mO_isLike.2.1 8 = .ok (.if_icmp .ne 59, 3) := by decide +kernel
theorem dO_isLike_11 : decode mO_isLike.2.1 11 = .ok (.aload_n 0, 1) := by decide +kernel
theorem dO_isLike_12 : decode mO_isLike.2.1 12 = .ok (.getfield 21, 3) := by decide +kernel
theorem dO_isLike_15 : decode mO_isLike.2.1 15 = .ok (.aload_n 1, 1) := by decide +kernel
theorem dO_isLike_16 : decode mO_isLike.2.1 16 = .ok (.getfield 21, 3) := by decide +kernel
theorem dO_isLike_19 : decode mO_isLike.2.1 19 = .ok (.if_icmp .ne 48, 3) := by decide +kernel
theorem dO_isLike_22 : decode mO_isLike.2.1 22 = .ok (.aload_n 0, 1) := by decide +kernel
theorem dO_isLike_23 : decode mO_isLike.2.1 23 = .ok (.getfield 24, 3) := by decide +kernel
theorem dO_isLike_26 : decode mO_isLike.2.1 26 = .ok (.aload_n 1, 1) := by decide +kernel
theorem dO_isLike_27 : decode mO_isLike.2.1 27 = .ok (.getfield 24, 3) := by decide +kernel
theorem dO_isLike_30 : decode mO_isLike.2.1 30 = .ok (.if_icmp .ne 37, 3) := by decide +kernel
theorem dO_isLike_33 : decode mO_isLike.2.1 33 = .ok (.aload_n 0, 1) := by decide +kernel
theorem dO_isLike_34 : decode mO_isLike.2.1 34 = .ok (.getfield 27, 3) := by decide +kernel
theorem dO_isLike_37 : decode mO_isLike.2.1 37 = .ok (.aload_n 1, 1) := by decide +kernel
theorem dO_isLike_38 : decode mO_isLike.2.1 38 = .ok (.getfield 27, 3) := by decide +kernel
theorem dO_isLike_41 : decode mO_isLike.2.1 41 = .ok (.if_icmp .ne 26, 3) := by decide +kernel
theorem dO_isLike_44 : decode mO_isLike.2.1 44 = .ok (.aload_n 0, 1) := by decide +kernel
theorem dO_isLike_45 : decode mO_isLike.2.1 45 = .ok (.getfield 30, 3) := by decide +kernel
theorem dO_isLike_48 : decode mO_isLike.2.1 48 = .ok (.aload_n 1, 1) := by decide +kernel
theorem dO_isLike_49 : decode mO_isLike.2.1 49 = .ok (.getfield 30, 3) := by decide +kernel
theorem dO_isLike_52 : decode mO_isLike.2.1 52 = .ok (.if_icmp .ne 15, 3) := by decide +kernel
theorem dO_isLike_55 : decode mO_isLike.2.1 55 = .ok (.aload_n 0, 1) := by decide +kernel
theorem dO_isLike_56 : decode mO_isLike.2.1 56 = .ok (.aload_n 1, 1) := by decide +kernel
theorem dO_isLike_57 : decode mO_isLike.2.1 57 = .ok (.invokevirtual 41, 3) := by decide +kernel
theorem dO_isLike_60 : decode mO_isLike.2.1 60 = .ok (.ifCond .eq 7, 3) := by decide +kernel
theorem dO_isLike_63 : decode mO_isLike.2.1 63 = .ok (.iconst 1, 1) := by decide +kernel
theorem dO_isLike_64 : decode mO_isLike.2.1 64 = .ok (.goto 4, 3) := by decide +kernel
theorem dO_isLike_67 : decode mO_isLike.2.1 67 = .ok (.iconst 0, 1) := by decide +kernel
theorem dO_isLike_68 : decode mO_isLike.2.1 68 = .ok (.ireturn, 1) := by decide +kernel
theorem dA_fill_0 : decode mA_fill.2.1 0 = .ok (.iconst 0, 1) := by decide +kernel
theorem dA_fill_1 : decode mA_fill.2.1 1 = .ok (.istore_n 2, 1) := by decide +kernel
theorem dA_fill_2 : decode mA_fill.2.1 2 = .ok (.aload_n 0, 1) := by decide +kernel
theorem dA_fill_3 : decode mA_fill.2.1 3 = .ok (.arraylength, 1) := by decide +kernel
theorem dA_fill_4 : decode mA_fill.2.1 4 = .ok (.istore_n 3, 1) := by decide +kernel
theorem dA_fill_5 : decode mA_fill.2.1 5 = .ok (.iload_n 2, 1) := by decide +kernel
theorem dA_fill_6 : decode mA_fill.2.1 6 = .ok (.iload_n 3, 1) := by decide +kernel
theorem dA_fill_7 : decode mA_fill.2.1 7 = .ok (.if_icmp .ge 13, 3) := by decide +kernel
theorem dA_fill_10 : decode mA_fill.2.1 10 = .ok (.aload_n 0, 1) := by decide +kernel
theorem dA_fill_11 : decode mA_fill.2.1 11 = .ok (.iload_n 2, 1) := by decide +kernel
theorem dA_fill_12 : decode mA_fill.2.1 12 = .ok (.iload_n 1, 1) := by decide +kernel
theorem dA_fill_13 : decode mA_fill.2.1 13 = .ok (.iastore, 1) := by decide +kernel
theorem dA_fill_14 : decode mA_fill.2.1 14 = .ok (.iinc 2 1, 3) := by decide +kernel
theorem dA_fill_17 : decode mA_fill.2.1 17 = .ok (.goto (-12), 3) := by decide +kernel
theorem dA_fill_20 : decode mA_fill.2.1 20 = .ok (.return_, 1) := by decide +kernel
theorem dC_init_0 : decode mC_init.2.1 0 = .ok (.aload_n 0, 1) := by decide +kernel
theorem dC_init_1 : decode mC_init.2.1 1 = .ok (.invokespecial 1, 3) := by decide +kernel
theorem dC_init_4 : decode mC_init.2.1 4 = .ok (.aload_n 0, 1) := by decide +kernel
theorem dC_init_5 : decode mC_init.2.1 5 = .ok (.bipush 28, 2) := by decide +kernel
theorem dC_init_7 : decode mC_init.2.1 7 = .ok (.anewarray 9, 3) := by decide +kernel
theorem dC_init_10 : decode mC_init.2.1 10 = .ok (.putfield 11, 3) := by decide +kernel
theorem dC_init_13 : decode mC_init.2.1 13 = .ok (.aload_n 0, 1) := by decide +kernel
theorem dC_init_14 : decode mC_init.2.1 14 = .ok (.bipush 28, 2) := by decide +kernel
theorem dC_init_16 : decode mC_init.2.1 16 = .ok (.anewarray 9, 3) := by decide +kernel
theorem dC_init_19 : decode mC_init.2.1 19 = .ok (.putfield 15, 3) := by decide +kernel
theorem dC_init_22 : decode mC_init.2.1 22 = .ok (.aload_n 0, 1) := by decide +kernel
theorem dC_init_23 : decode mC_init.2.1 23 = .ok (.bipush 28, 2) := by decide +kernel
theorem dC_init_25 : decode mC_init.2.1 25 = .ok (.newarray .int, 2) := by decide +kernel
theorem dC_init_27 : decode mC_init.2.1 27 = .ok (.putfield 18, 3) := by decide +kernel
theorem dC_init_30 : decode mC_init.2.1 30 = .ok (.aload_n 0, 1) := by decide +kernel
theorem dC_init_31 : decode mC_init.2.1 31 = .ok (.bipush 28, 2) := by decide +kernel
theorem dC_init_33 : decode mC_init.2.1 33 = .ok (.newarray .boolean, 2) := by decide +kernel
theorem dC_init_35 : decode mC_init.2.1 35 = .ok (.putfield 22, 3) := by decide +kernel
theorem dC_init_38 : decode mC_init.2.1 38 = .ok (.aload_n 0, 1) := by decide +kernel
theorem dC_init_39 : decode mC_init.2.1 39 = .ok (.bipush 28, 2) := by decide +kernel
theorem dC_init_41 : decode mC_init.2.1 41 = .ok (.newarray .boolean, 2) := by decide +kernel
theorem dC_init_43 : decode mC_init.2.1 43 = .ok (.putfield 26, 3) := by decide +kernel
theorem dC_init_46 : decode mC_init.2.1 46 = .ok (.aload_n 0, 1) := by decide +kernel
theorem dC_init_47 : decode mC_init.2.1 47 = .ok (.bipush 28, 2) := by decide +kernel
theorem dC_init_49 : decode mC_init.2.1 49 = .ok (.bipush 16, 2) := by decide +kernel
theorem dC_init_51 : decode mC_init.2.1 51 = .ok (.multianewarray 29 2, 4) := by decide +kernel
theorem dC_init_55 : decode mC_init.2.1 55 = .ok (.putfield 31, 3) := by decide +kernel
theorem dC_init_58 : decode mC_init.2.1 58 = .ok (.aload_n 0, 1) := by decide +kernel
theorem dC_init_59 : decode mC_init.2.1 59 = .ok (.iconst 4, 1) := by decide +kernel
theorem dC_init_60 : decode mC_init.2.1 60 = .ok (.bipush 16, 2) := by decide +kernel
theorem dC_init_62 : decode mC_init.2.1 62 = .ok (.multianewarray 29 2, 4) := by decide +kernel
theorem dC_init_66 : decode mC_init.2.1 66 = .ok (.putfield 34, 3) := by decide +kernel
theorem dC_init_69 : decode mC_init.2.1 69 = .ok (.aload_n 0, 1) := by decide +kernel
theorem dC_init_70 : decode mC_init.2.1 70 = .ok (.bipush 7, 2) := by decide +kernel
theorem dC_init_72 : decode mC_init.2.1 72 = .ok (.newarray .int, 2) := by decide +kernel
theorem dC_init_74 : decode mC_init.2.1 74 = .ok (.putfield 37, 3) := by decide +kernel
theorem dC_init_77 : decode mC_init.2.1 77 = .ok (.aload_n 0, 1) := by decide +kernel
theorem dC_init_78 : decode mC_init.2.1 78 = .ok (.iconst 0, 1) := by decide +kernel
theorem dC_init_79 : decode mC_init.2.1 79 = .ok (.putfield 40, 3) := by decide +kernel
theorem dC_init_82 : decode mC_init.2.1 82 = .ok (.aload_n 0, 1) := by decide +kernel
theorem dC_init_83 : decode mC_init.2.1 83 = .ok (.iconst 0, 1) := by decide +kernel
theorem dC_init_84 : decode mC_init.2.1 84 = .ok (.putfield 44, 3) := by decide +kernel
theorem dC_init_87 : decode mC_init.2.1 87 = .ok (.aload_n 0, 1) := by decide +kernel
theorem dC_init_88 : decode mC_init.2.1 88 = .ok (.iconst 0, 1) := by decide +kernel
theorem dC_init_89 : decode mC_init.2.1 89 = .ok (.putfield 48, 3) := by decide +kernel
theorem dC_init_92 : decode mC_init.2.1 92 = .ok (.iconst 0, 1) := by decide +kernel
theorem dC_init_93 : decode mC_init.2.1 93 = .ok (.istore_n 1, 1) := by decide +kernel
theorem dC_init_94 : decode mC_init.2.1 94 = .ok (.iload_n 1, 1) := by decide +kernel
theorem dC_init_95 : decode mC_init.2.1 95 = .ok (.bipush 28, 2) := by decide +kernel
theorem dC_init_97 : decode mC_init.2.1 97 = .ok (.if_icmp .ge 35, 3) := by decide +kernel
theorem dC_init_100 : decode mC_init.2.1 100 = .ok (.aload_n 0, 1) := by decide +kernel
theorem dC_init_101 : decode mC_init.2.1 101 = .ok (.getfield 11, 3) := by decide +kernel
theorem dC_init_104 : decode mC_init.2.1 104 = .ok (.iload_n 1, 1) := by decide +kernel
theorem dC_init_105 : decode mC_init.2.1 105 = .ok (.new 9, 3) := by decide +kernel
theorem dC_init_108 : decode mC_init.2.1 108 = .ok (.dup, 1) := by decide +kernel
theorem dC_init_109 : decode mC_init.2.1 109 = .ok (.invokespecial 51, 3) := by decide +kernel
theorem dC_init_112 : decode mC_init.2.1 112 = .ok (.aastore, 1) := by decide +kernel
theorem dC_init_113 : decode mC_init.2.1 113 = .ok (.aload_n 0, 1) := by decide +kernel
theorem dC_init_114 : decode mC_init.2.1 114 = .ok (.getfield 15, 3) := by decide +kernel
theorem dC_init_117 : decode mC_init.2.1 117 = .ok (.iload_n 1, 1) := by decide +kernel
theorem dC_init_118 : decode mC_init.2.1 118 = .ok (.new 9, 3) := by decide +kernel
theorem dC_init_121 : decode mC_init.2.1 121 = .ok (.dup, 1) := by decide +kernel
theorem dC_init_122 : decode mC_init.2.1 122 = .ok (.invokespecial 51, 3) := by decide +kernel
theorem dC_init_125 : decode mC_init.2.1 125 = .ok (.aastore, 1) := by decide +kernel
theorem dC_init_126 : decode mC_init.2.1 126 = .ok (.iinc 1 1, 3) := by decide +kernel
theorem dC_init_129 : decode mC_init.2.1 129 = .ok (.goto (-35), 3) := by decide +kernel
theorem dC_init_132 : decode mC_init.2.1 132 = .ok (.return_, 1) := by decide +kernel
theorem dC_source_0 : decode mC_source.2.1 0 = .ok (.iload_n 1, 1) := by decide +kernel
theorem dC_source_1 : decode mC_source.2.1 1 = .ok (.ifCond .lt 25, 3) := by decide +kernel
theorem dC_source_4 : decode mC_source.2.1 4 = .ok (.iload_n 1, 1) := by decide +kernel
theorem dC_source_5 : decode mC_source.2.1 5 = .ok (.iconst 2, 1) := by decide +kernel
theorem dC_source_6 : decode mC_source.2.1 6 = .ok (.if_icmp .gt 20, 3) := by decide +kernel
theorem dC_source_9 : decode mC_source.2.1 9 = .ok (.iload_n 2, 1) := by decide +kernel
theorem dC_source_10 : decode mC_source.2.1 10 = .ok (.iload_n 3, 1) := by decide +kernel
theorem dC_source_11 : decode mC_source.2.1 11 = .ok (.invokestatic 52, 3) := by decide +kernel
theorem dC_source_14 : decode mC_source.2.1 14 = .ok (.ifCond .eq 12, 3) := by decide +kernel
theorem dC_source_17 : decode mC_source.2.1 17 = .ok (.iload_n 1, 1) := by decide +kernel
theorem dC_source_18 : decode mC_source.2.1 18 = .ok (.iload 4, 2) := by decide +kernel
theorem dC_source_20 : decode mC_source.2.1 20 = .ok (.invokestatic 56, 3) := by decide +kernel
theorem dC_source_23 : decode mC_source.2.1 23 = .ok (.ifCond .ne 5, 3) := by decide +kernel
theorem dC_source_26 : decode mC_source.2.1 26 = .ok (.iconst (-1), 1) := by decide +kernel
theorem dC_source_27 : decode mC_source.2.1 27 = .ok (.ireturn, 1) := by decide +kernel
theorem dC_source_28 : decode mC_source.2.1 28 = .ok (.aload_n 0, 1) := by decide +kernel
theorem dC_source_29 : decode mC_source.2.1 29 = .ok (.getfield 40, 3) := by decide +kernel
theorem dC_source_32 : decode mC_source.2.1 32 = .ok (.bipush 28, 2) := by decide +kernel
theorem dC_source_34 : decode mC_source.2.1 34 = .ok (.if_icmp .lt 6, 3) := by decide +kernel
theorem dC_source_37 : decode mC_source.2.1 37 = .ok (.bipush (-2), 2) := by decide +kernel
theorem dC_source_39 : decode mC_source.2.1 39 = .ok (.ireturn, 1) := by decide +kernel
theorem dC_source_40 : decode mC_source.2.1 40 = .ok (.aload_n 0, 1) := by decide +kernel
theorem dC_source_41 : decode mC_source.2.1 41 = .ok (.getfield 11, 3) := by decide +kernel
theorem dC_source_44 : decode mC_source.2.1 44 = .ok (.aload_n 0, 1) := by decide +kernel
theorem dC_source_45 : decode mC_source.2.1 45 = .ok (.getfield 40, 3) := by decide +kernel
theorem dC_source_48 : decode mC_source.2.1 48 = .ok (.aaload, 1) := by decide +kernel
theorem dC_source_49 : decode mC_source.2.1 49 = .ok (.iload_n 1, 1) := by decide +kernel
theorem dC_source_50 : decode mC_source.2.1 50 = .ok (.iconst (-1), 1) := by decide +kernel
theorem dC_source_51 : decode mC_source.2.1 51 = .ok (.iconst (-1), 1) := by decide +kernel
theorem dC_source_52 : decode mC_source.2.1 52 = .ok (.iload 4, 2) := by decide +kernel
theorem dC_source_54 : decode mC_source.2.1 54 = .ok (.iconst 0, 1) := by decide +kernel
theorem dC_source_55 : decode mC_source.2.1 55 = .ok (.invokevirtual 59, 3) := by decide +kernel
theorem dC_source_58 : decode mC_source.2.1 58 = .ok (.aload_n 0, 1) := by decide +kernel
theorem dC_source_59 : decode mC_source.2.1 59 = .ok (.iload_n 2, 1) := by decide +kernel
theorem dC_source_60 : decode mC_source.2.1 60 = .ok (.iload_n 3, 1) := by decide +kernel
theorem dC_source_61 : decode mC_source.2.1 61 = .ok (.invokevirtual 63, 3) := by decide +kernel
theorem dC_source_64 : decode mC_source.2.1 64 = .ok (.ireturn, 1) := by decide +kernel
theorem dC_operation_0 : decode mC_operation.2.1 0 = .ok (.iload_n 1, 1) := by decide +kernel
theorem dC_operation_1 : decode mC_operation.2.1 1 = .ok (.iconst 3, 1) := by decide +kernel
theorem dC_operation_2 : decode mC_operation.2.1 2 = .ok (.if_icmp .lt 25, 3) := by decide +kernel
theorem dC_operation_5 : decode mC_operation.2.1 5 = .ok (.iload_n 1, 1) := by decide +kernel
theorem dC_operation_6 : decode mC_operation.2.1 6 = .ok (.bipush 9, 2) := by decide +kernel
theorem dC_operation_8 : decode mC_operation.2.1 8 = .ok (.if_icmp .gt 19, 3) := by decide +kernel
theorem dC_operation_11 : decode mC_operation.2.1 11 = .ok (.aload_n 0, 1) := by decide +kernel
theorem dC_operation_12 : decode mC_operation.2.1 12 = .ok (.iload_n 2, 1) := by decide +kernel
theorem dC_operation_13 : decode mC_operation.2.1 13 = .ok (.invokevirtual 67, 3) := by decide +kernel
theorem dC_operation_16 : decode mC_operation.2.1 16 = .ok (.ifCond .eq 11, 3) := by decide +kernel
theorem dC_operation_19 : decode mC_operation.2.1 19 = .ok (.aload_n 0, 1) := by decide +kernel
theorem dC_operation_20 : decode mC_operation.2.1 20 = .ok (.iload_n 3, 1) := by decide +kernel
theorem dC_operation_21 : decode mC_operation.2.1 21 = .ok (.invokevirtual 67, 3) := by decide +kernel
theorem dC_operation_24 : decode mC_operation.2.1 24 = .ok (.ifCond .ne 5, 3) := by decide +kernel
theorem dC_operation_27 : decode mC_operation.2.1 27 = .ok (.iconst (-1), 1) := by decide +kernel
theorem dC_operation_28 : decode mC_operation.2.1 28 = .ok (.ireturn, 1) := by decide +kernel
theorem dC_operation_29 : decode mC_operation.2.1 29 = .ok (.iload_n 1, 1) := by decide +kernel
theorem dC_operation_30 : decode mC_operation.2.1 30 = .ok (.bipush 6, 2) := by decide +kernel
theorem dC_operation_32 : decode mC_operation.2.1 32 = .ok (.if_icmp .eq 15, 3) := by decide +kernel
theorem dC_operation_35 : decode mC_operation.2.1 35 = .ok (.iload_n 1, 1) := by decide +kernel
theorem dC_operation_36 : decode mC_operation.2.1 36 = .ok (.bipush 7, 2) := by decide +kernel
theorem dC_operation_38 : decode mC_operation.2.1 38 = .ok (.if_icmp .eq 9, 3) := by decide +kernel
theorem dC_operation_41 : decode mC_operation.2.1 41 = .ok (.iload_n 1, 1) := by decide +kernel
theorem dC_operation_42 : decode mC_operation.2.1 42 = .ok (.bipush 9, 2) := by decide +kernel
theorem dC_operation_44 : decode mC_operation.2.1 44 = .ok (.if_icmp .ne 7, 3) := by decide +kernel
theorem dC_operation_47 : decode mC_operation.2.1 47 = .ok (.iconst 1, 1) := by decide +kernel
theorem dC_operation_48 : decode mC_operation.2.1 48 = .ok (.goto 4, 3) := by decide +kernel
theorem dC_operation_51 : decode mC_operation.2.1 51 = .ok (.iconst 0, 1) := by decide +kernel
theorem dC_operation_52 : decode mC_operation.2.1 52 = .ok (.istore 5, 2) := by decide +kernel
theorem dC_operation_54 : decode mC_operation.2.1 54 = .ok (.iload 5, 2) := by decide +kernel
theorem dC_operation_56 : decode mC_operation.2.1 56 = .ok (.ifCond .eq 8, 3) := by decide +kernel
theorem dC_operation_59 : decode mC_operation.2.1 59 = .ok (.iload_n 3, 1) := by decide +kernel
theorem dC_operation_60 : decode mC_operation.2.1 60 = .ok (.iload_n 2, 1) := by decide +kernel
theorem dC_operation_61 : decode mC_operation.2.1 61 = .ok (.if_icmp .ne 24, 3) := by decide +kernel
theorem dC_operation_64 : decode mC_operation.2.1 64 = .ok (.iload 4, 2) := by decide +kernel
theorem dC_operation_66 : decode mC_operation.2.1 66 = .ok (.ifCond .lt 19, 3) := by decide +kernel
theorem dC_operation_69 : decode mC_operation.2.1 69 = .ok (.iload 4, 2) := by decide +kernel
theorem dC_operation_71 : decode mC_operation.2.1 71 = .ok (.iload_n 1, 1) := by decide +kernel
theorem dC_operation_72 : decode mC_operation.2.1 72 = .ok (.bipush 9, 2) := by decide +kernel
theorem dC_operation_74 : decode mC_operation.2.1 74 = .ok (.if_icmp .ne 7, 3) := by decide +kernel
theorem dC_operation_77 : decode mC_operation.2.1 77 = .ok (.iconst 1, 1) := by decide +kernel
theorem dC_operation_78 : decode mC_operation.2.1 78 = .ok (.goto 4, 3) := by decide +kernel
theorem dC_operation_81 : decode mC_operation.2.1 81 = .ok (.iconst 0, 1) := by decide +kernel
theorem dC_operation_82 : decode mC_operation.2.1 82 = .ok (.if_icmp .le 5, 3) := by decide +kernel
theorem dC_operation_85 : decode mC_operation.2.1 85 = .ok (.iconst (-1), 1) := by decide +kernel
theorem dC_operation_86 : decode mC_operation.2.1 86 = .ok (.ireturn, 1) := by decide +kernel
theorem dC_operation_87 : decode mC_operation.2.1 87 = .ok (.iload_n 1, 1) := by decide +kernel
theorem dC_operation_88 : decode mC_operation.2.1 88 = .ok (.aload_n 0, 1) := by decide +kernel
theorem dC_operation_89 : decode mC_operation.2.1 89 = .ok (.getfield 11, 3) := by decide +kernel
theorem dC_operation_92 : decode mC_operation.2.1 92 = .ok (.iload_n 2, 1) := by decide +kernel
theorem dC_operation_93 : decode mC_operation.2.1 93 = .ok (.aaload, 1) := by decide +kernel
theorem dC_operation_94 : decode mC_operation.2.1 94 = .ok (.aload_n 0, 1) := by decide +kernel
theorem dC_operation_95 : decode mC_operation.2.1 95 = .ok (.getfield 11, 3) := by decide +kernel
theorem dC_operation_98 : decode mC_operation.2.1 98 = .ok (.iload_n 3, 1) := by decide +kernel
theorem dC_operation_99 : decode mC_operation.2.1 99 = .ok (.aaload, 1) := by decide +kernel
theorem dC_operation_100 : decode mC_operation.2.1 100 = .ok (.invokestatic 71, 3) := by decide +kernel
theorem dC_operation_103 : decode mC_operation.2.1 103 = .ok (.ifCond .ne 6, 3) := by decide +kernel
theorem dC_operation_106 : decode mC_operation.2.1 106 = .ok (.bipush (-3), 2) := by decide +kernel
theorem dC_operation_108 : decode mC_operation.2.1 108 = .ok (.ireturn, 1) := by decide +kernel
theorem dC_operation_109 : decode mC_operation.2.1 109 = .ok (.aload_n 0, 1) := by decide +kernel
theorem dC_operation_110 : decode mC_operation.2.1 110 = .ok (.getfield 40, 3) := by decide +kernel
theorem dC_operation_113 : decode mC_operation.2.1 113 = .ok (.bipush 28, 2) := by decide +kernel
theorem dC_operation_115 : decode mC_operation.2.1 115 = .ok (.if_icmp .lt 6, 3) := by decide +kernel
theorem dC_operation_118 : decode mC_operation.2.1 118 = .ok (.bipush (-2), 2) := by decide +kernel
theorem dC_operation_120 : decode mC_operation.2.1 120 = .ok (.ireturn, 1) := by decide +kernel
theorem dC_operation_121 : decode mC_operation.2.1 121 = .ok (.aload_n 0, 1) := by decide +kernel
theorem dC_operation_122 : decode mC_operation.2.1 122 = .ok (.getfield 11, 3) := by decide +kernel
theorem dC_operation_125 : decode mC_operation.2.1 125 = .ok (.aload_n 0, 1) := by decide +kernel
theorem dC_operation_126 : decode mC_operation.2.1 126 = .ok (.getfield 40, 3) := by decide +kernel
theorem dC_operation_129 : decode mC_operation.2.1 129 = .ok (.aaload, 1) := by decide +kernel
theorem dC_operation_130 : decode mC_operation.2.1 130 = .ok (.iload_n 1, 1) := by decide +kernel
theorem dC_operation_131 : decode mC_operation.2.1 131 = .ok (.iload_n 2, 1) := by decide +kernel
theorem dC_operation_132 : decode mC_operation.2.1 132 = .ok (.iload 5, 2) := by decide +kernel
theorem dC_operation_134 : decode mC_operation.2.1 134 = .ok (.ifCond .eq 7, 3) := by decide +kernel
theorem dC_operation_137 : decode mC_operation.2.1 137 = .ok (.iconst (-1), 1) := by decide +kernel
theorem dC_operation_138 : decode mC_operation.2.1 138 = .ok (.goto 4, 3) := by decide +kernel
theorem dC_operation_141 : decode mC_operation.2.1 141 = .ok (.iload_n 3, 1) := by decide +kernel
theorem dC_operation_142 : decode mC_operation.2.1 142 = .ok (.iload 4, 2) := by decide +kernel
theorem dC_operation_144 : decode mC_operation.2.1 144 = .ok (.iconst 0, 1) := by decide +kernel
theorem dC_operation_145 : decode mC_operation.2.1 145 = .ok (.invokevirtual 59, 3) := by decide +kernel
theorem dC_operation_148 : decode mC_operation.2.1 148 = .ok (.aload_n 0, 1) := by decide +kernel
theorem dC_operation_149 : decode mC_operation.2.1 149 = .ok (.iload_n 1, 1) := by decide +kernel
theorem dC_operation_150 : decode mC_operation.2.1 150 = .ok (.aload_n 0, 1) := by decide +kernel
theorem dC_operation_151 : decode mC_operation.2.1 151 = .ok (.getfield 11, 3) := by decide +kernel
theorem dC_operation_154 : decode mC_operation.2.1 154 = .ok (.iload_n 2, 1) := by decide +kernel
theorem dC_operation_155 : decode mC_operation.2.1 155 = .ok (.aaload, 1) := by decide +kernel
theorem dC_operation_156 : decode mC_operation.2.1 156 = .ok (.iload 4, 2) := by decide +kernel
theorem dC_operation_158 : decode mC_operation.2.1 158 = .ok (.invokestatic 75, 3) := by decide +kernel
theorem dC_operation_161 : decode mC_operation.2.1 161 = .ok (.iload_n 1, 1) := by decide +kernel
theorem dC_operation_162 : decode mC_operation.2.1 162 = .ok (.aload_n 0, 1) := by decide +kernel
theorem dC_operation_163 : decode mC_operation.2.1 163 = .ok (.getfield 11, 3) := by decide +kernel
theorem dC_operation_166 : decode mC_operation.2.1 166 = .ok (.iload_n 2, 1) := by decide +kernel
theorem dC_operation_167 : decode mC_operation.2.1 167 = .ok (.aaload, 1) := by decide +kernel
theorem dC_operation_168 : decode mC_operation.2.1 168 = .ok (.aload_n 0, 1) := by decide +kernel
theorem dC_operation_169 : decode mC_operation.2.1 169 = .ok (.getfield 11, 3) := by decide +kernel
theorem dC_operation_172 : decode mC_operation.2.1 172 = .ok (.iload_n 3, 1) := by decide +kernel
theorem dC_operation_173 : decode mC_operation.2.1 173 = .ok (.aaload, 1) := by decide +kernel
theorem dC_operation_174 : decode mC_operation.2.1 174 = .ok (.iload 4, 2) := by decide +kernel
theorem dC_operation_176 : decode mC_operation.2.1 176 = .ok (.invokestatic 79, 3) := by decide +kernel
theorem dC_operation_179 : decode mC_operation.2.1 179 = .ok (.invokevirtual 63, 3) := by decide +kernel
theorem dC_operation_182 : decode mC_operation.2.1 182 = .ok (.ireturn, 1) := by decide +kernel
theorem dC_reshape_0 : decode mC_reshape.2.1 0 = .ok (.iload_n 1, 1) := by decide +kernel
theorem dC_reshape_1 : decode mC_reshape.2.1 1 = .ok (.bipush 10, 2) := by decide +kernel
theorem dC_reshape_3 : decode mC_reshape.2.1 3 = .ok (.if_icmp .lt 26, 3) := by decide +kernel
theorem dC_reshape_6 : decode mC_reshape.2.1 6 = .ok (.iload_n 1, 1) := by decide +kernel
theorem dC_reshape_7 : decode mC_reshape.2.1 7 = .ok (.bipush 11, 2) := by decide +kernel
theorem dC_reshape_9 : decode mC_reshape.2.1 9 = .ok (.if_icmp .gt 20, 3) := by decide +kernel
theorem dC_reshape_12 : decode mC_reshape.2.1 12 = .ok (.aload_n 0, 1) := by decide +kernel
theorem dC_reshape_13 : decode mC_reshape.2.1 13 = .ok (.iload_n 2, 1) := by decide +kernel
theorem dC_reshape_14 : decode mC_reshape.2.1 14 = .ok (.invokevirtual 67, 3) := by decide +kernel
theorem dC_reshape_17 : decode mC_reshape.2.1 17 = .ok (.ifCond .eq 12, 3) := by decide +kernel
theorem dC_reshape_20 : decode mC_reshape.2.1 20 = .ok (.iload_n 3, 1) := by decide +kernel
theorem dC_reshape_21 : decode mC_reshape.2.1 21 = .ok (.iload 4, 2) := by decide +kernel
theorem dC_reshape_23 : decode mC_reshape.2.1 23 = .ok (.invokestatic 52, 3) := by decide +kernel
theorem dC_reshape_26 : decode mC_reshape.2.1 26 = .ok (.ifCond .ne 5, 3) := by decide +kernel
theorem dC_reshape_29 : decode mC_reshape.2.1 29 = .ok (.iconst (-1), 1) := by decide +kernel
theorem dC_reshape_30 : decode mC_reshape.2.1 30 = .ok (.ireturn, 1) := by decide +kernel
theorem dC_reshape_31 : decode mC_reshape.2.1 31 = .ok (.aload_n 0, 1) := by decide +kernel
theorem dC_reshape_32 : decode mC_reshape.2.1 32 = .ok (.getfield 11, 3) := by decide +kernel
theorem dC_reshape_35 : decode mC_reshape.2.1 35 = .ok (.iload_n 2, 1) := by decide +kernel
theorem dC_reshape_36 : decode mC_reshape.2.1 36 = .ok (.aaload, 1) := by decide +kernel
theorem dC_reshape_37 : decode mC_reshape.2.1 37 = .ok (.astore 5, 2) := by decide +kernel
theorem dC_reshape_39 : decode mC_reshape.2.1 39 = .ok (.iload_n 1, 1) := by decide +kernel
theorem dC_reshape_40 : decode mC_reshape.2.1 40 = .ok (.bipush 10, 2) := by decide +kernel
theorem dC_reshape_42 : decode mC_reshape.2.1 42 = .ok (.if_icmp .ne 36, 3) := by decide +kernel
theorem dC_reshape_45 : decode mC_reshape.2.1 45 = .ok (.aload 5, 2) := by decide +kernel
theorem dC_reshape_47 : decode mC_reshape.2.1 47 = .ok (.getfield 83, 3) := by decide +kernel
theorem dC_reshape_50 : decode mC_reshape.2.1 50 = .ok (.iload_n 3, 1) := by decide +kernel
theorem dC_reshape_51 : decode mC_reshape.2.1 51 = .ok (.invokestatic 86, 3) := by decide +kernel
theorem dC_reshape_54 : decode mC_reshape.2.1 54 = .ok (.ifCond .eq 20, 3) := by decide +kernel
theorem dC_reshape_57 : decode mC_reshape.2.1 57 = .ok (.aload 5, 2) := by decide +kernel
theorem dC_reshape_59 : decode mC_reshape.2.1 59 = .ok (.getfield 89, 3) := by decide +kernel
theorem dC_reshape_62 : decode mC_reshape.2.1 62 = .ok (.iload 4, 2) := by decide +kernel
theorem dC_reshape_64 : decode mC_reshape.2.1 64 = .ok (.invokestatic 86, 3) := by decide +kernel
theorem dC_reshape_67 : decode mC_reshape.2.1 67 = .ok (.ifCond .eq 7, 3) := by decide +kernel
theorem dC_reshape_70 : decode mC_reshape.2.1 70 = .ok (.iconst 1, 1) := by decide +kernel
theorem dC_reshape_71 : decode mC_reshape.2.1 71 = .ok (.goto 30, 3) := by decide +kernel
theorem dC_reshape_74 : decode mC_reshape.2.1 74 = .ok (.iconst 0, 1) := by decide +kernel
theorem dC_reshape_75 : decode mC_reshape.2.1 75 = .ok (.goto 26, 3) := by decide +kernel
theorem dC_reshape_78 : decode mC_reshape.2.1 78 = .ok (.aload 5, 2) := by decide +kernel
theorem dC_reshape_80 : decode mC_reshape.2.1 80 = .ok (.getfield 83, 3) := by decide +kernel
theorem dC_reshape_83 : decode mC_reshape.2.1 83 = .ok (.aload 5, 2) := by decide +kernel
theorem dC_reshape_85 : decode mC_reshape.2.1 85 = .ok (.getfield 89, 3) := by decide +kernel
theorem dC_reshape_88 : decode mC_reshape.2.1 88 = .ok (.imul, 1) := by decide +kernel
theorem dC_reshape_89 : decode mC_reshape.2.1 89 = .ok (.iload_n 3, 1) := by decide +kernel
theorem dC_reshape_90 : decode mC_reshape.2.1 90 = .ok (.iload 4, 2) := by decide +kernel
theorem dC_reshape_92 : decode mC_reshape.2.1 92 = .ok (.imul, 1) := by decide +kernel
theorem dC_reshape_93 : decode mC_reshape.2.1 93 = .ok (.if_icmp .ne 7, 3) := by decide +kernel
theorem dC_reshape_96 : decode mC_reshape.2.1 96 = .ok (.iconst 1, 1) := by decide +kernel
theorem dC_reshape_97 : decode mC_reshape.2.1 97 = .ok (.goto 4, 3) := by decide +kernel
theorem dC_reshape_100 : decode mC_reshape.2.1 100 = .ok (.iconst 0, 1) := by decide +kernel
theorem dC_reshape_101 : decode mC_reshape.2.1 101 = .ok (.istore 6, 2) := by decide +kernel
theorem dC_reshape_103 : decode mC_reshape.2.1 103 = .ok (.iload 6, 2) := by decide +kernel
theorem dC_reshape_105 : decode mC_reshape.2.1 105 = .ok (.ifCond .ne 6, 3) := by decide +kernel
theorem dC_reshape_108 : decode mC_reshape.2.1 108 = .ok (.bipush (-3), 2) := by decide +kernel
theorem dC_reshape_110 : decode mC_reshape.2.1 110 = .ok (.ireturn, 1) := by decide +kernel
theorem dC_reshape_111 : decode mC_reshape.2.1 111 = .ok (.aload_n 0, 1) := by decide +kernel
theorem dC_reshape_112 : decode mC_reshape.2.1 112 = .ok (.getfield 40, 3) := by decide +kernel
theorem dC_reshape_115 : decode mC_reshape.2.1 115 = .ok (.bipush 28, 2) := by decide +kernel
theorem dC_reshape_117 : decode mC_reshape.2.1 117 = .ok (.if_icmp .lt 6, 3) := by decide +kernel
theorem dC_reshape_120 : decode mC_reshape.2.1 120 = .ok (.bipush (-2), 2) := by decide +kernel
theorem dC_reshape_122 : decode mC_reshape.2.1 122 = .ok (.ireturn, 1) := by decide +kernel
theorem dC_reshape_123 : decode mC_reshape.2.1 123 = .ok (.aload_n 0, 1) := by decide +kernel
theorem dC_reshape_124 : decode mC_reshape.2.1 124 = .ok (.getfield 11, 3) := by decide +kernel
theorem dC_reshape_127 : decode mC_reshape.2.1 127 = .ok (.aload_n 0, 1) := by decide +kernel
theorem dC_reshape_128 : decode mC_reshape.2.1 128 = .ok (.getfield 40, 3) := by decide +kernel
theorem dC_reshape_131 : decode mC_reshape.2.1 131 = .ok (.aaload, 1) := by decide +kernel
theorem dC_reshape_132 : decode mC_reshape.2.1 132 = .ok (.iload_n 1, 1) := by decide +kernel
theorem dC_reshape_133 : decode mC_reshape.2.1 133 = .ok (.iload_n 2, 1) := by decide +kernel
theorem dC_reshape_134 : decode mC_reshape.2.1 134 = .ok (.iconst (-1), 1) := by decide +kernel
theorem dC_reshape_135 : decode mC_reshape.2.1 135 = .ok (.iconst 0, 1) := by decide +kernel
theorem dC_reshape_136 : decode mC_reshape.2.1 136 = .ok (.iconst 0, 1) := by decide +kernel
theorem dC_reshape_137 : decode mC_reshape.2.1 137 = .ok (.invokevirtual 59, 3) := by decide +kernel
theorem dC_reshape_140 : decode mC_reshape.2.1 140 = .ok (.aload_n 0, 1) := by decide +kernel
theorem dC_reshape_141 : decode mC_reshape.2.1 141 = .ok (.iload_n 3, 1) := by decide +kernel
theorem dC_reshape_142 : decode mC_reshape.2.1 142 = .ok (.iload 4, 2) := by decide +kernel
theorem dC_reshape_144 : decode mC_reshape.2.1 144 = .ok (.invokevirtual 63, 3) := by decide +kernel
theorem dC_reshape_147 : decode mC_reshape.2.1 147 = .ok (.ireturn, 1) := by decide +kernel
theorem dC_part_0 : decode mC_part.2.1 0 = .ok (.aload_n 0, 1) := by decide +kernel
theorem dC_part_1 : decode mC_part.2.1 1 = .ok (.iload_n 1, 1) := by decide +kernel
theorem dC_part_2 : decode mC_part.2.1 2 = .ok (.invokevirtual 67, 3) := by decide +kernel
theorem dC_part_5 : decode mC_part.2.1 5 = .ok (.ifCond .eq 21, 3) := by decide +kernel
theorem dC_part_8 : decode mC_part.2.1 8 = .ok (.iload_n 2, 1) := by decide +kernel
theorem dC_part_9 : decode mC_part.2.1 9 = .ok (.iload_n 3, 1) := by decide +kernel
theorem dC_part_10 : decode mC_part.2.1 10 = .ok (.invokestatic 92, 3) := by decide +kernel
theorem dC_part_13 : decode mC_part.2.1 13 = .ok (.ifCond .eq 13, 3) := by decide +kernel
theorem dC_part_16 : decode mC_part.2.1 16 = .ok (.iload 4, 2) := by decide +kernel
theorem dC_part_18 : decode mC_part.2.1 18 = .ok (.iload 5, 2) := by decide +kernel
theorem dC_part_20 : decode mC_part.2.1 20 = .ok (.invokestatic 52, 3) := by decide +kernel
theorem dC_part_23 : decode mC_part.2.1 23 = .ok (.ifCond .ne 5, 3) := by decide +kernel
theorem dC_part_26 : decode mC_part.2.1 26 = .ok (.iconst (-1), 1) := by decide +kernel
theorem dC_part_27 : decode mC_part.2.1 27 = .ok (.ireturn, 1) := by decide +kernel
theorem dC_part_28 : decode mC_part.2.1 28 = .ok (.iload_n 2, 1) := by decide +kernel
theorem dC_part_29 : decode mC_part.2.1 29 = .ok (.iload 4, 2) := by decide +kernel
theorem dC_part_31 : decode mC_part.2.1 31 = .ok (.iadd, 1) := by decide +kernel
theorem dC_part_32 : decode mC_part.2.1 32 = .ok (.aload_n 0, 1) := by decide +kernel
theorem dC_part_33 : decode mC_part.2.1 33 = .ok (.getfield 11, 3) := by decide +kernel
theorem dC_part_36 : decode mC_part.2.1 36 = .ok (.iload_n 1, 1) := by decide +kernel
theorem dC_part_37 : decode mC_part.2.1 37 = .ok (.aaload, 1) := by decide +kernel
theorem dC_part_38 : decode mC_part.2.1 38 = .ok (.getfield 83, 3) := by decide +kernel
theorem dC_part_41 : decode mC_part.2.1 41 = .ok (.if_icmp .gt 19, 3) := by decide +kernel
theorem dC_part_44 : decode mC_part.2.1 44 = .ok (.iload_n 3, 1) := by decide +kernel
theorem dC_part_45 : decode mC_part.2.1 45 = .ok (.iload 5, 2) := by decide +kernel
theorem dC_part_47 : decode mC_part.2.1 47 = .ok (.iadd, 1) := by decide +kernel
theorem dC_part_48 : decode mC_part.2.1 48 = .ok (.aload_n 0, 1) := by decide +kernel
theorem dC_part_49 : decode mC_part.2.1 49 = .ok (.getfield 11, 3) := by decide +kernel
theorem dC_part_52 : decode mC_part.2.1 52 = .ok (.iload_n 1, 1) := by decide +kernel
theorem dC_part_53 : decode mC_part.2.1 53 = .ok (.aaload, 1) := by decide +kernel
theorem dC_part_54 : decode mC_part.2.1 54 = .ok (.getfield 89, 3) := by decide +kernel
theorem dC_part_57 : decode mC_part.2.1 57 = .ok (.if_icmp .le 6, 3) := by decide +kernel
theorem dC_part_60 : decode mC_part.2.1 60 = .ok (.bipush (-3), 2) := by decide +kernel
theorem dC_part_62 : decode mC_part.2.1 62 = .ok (.ireturn, 1) := by decide +kernel
theorem dC_part_63 : decode mC_part.2.1 63 = .ok (.aload_n 0, 1) := by decide +kernel
theorem dC_part_64 : decode mC_part.2.1 64 = .ok (.getfield 40, 3) := by decide +kernel
theorem dC_part_67 : decode mC_part.2.1 67 = .ok (.bipush 28, 2) := by decide +kernel
theorem dC_part_69 : decode mC_part.2.1 69 = .ok (.if_icmp .lt 6, 3) := by decide +kernel
theorem dC_part_72 : decode mC_part.2.1 72 = .ok (.bipush (-2), 2) := by decide +kernel
theorem dC_part_74 : decode mC_part.2.1 74 = .ok (.ireturn, 1) := by decide +kernel
theorem dC_part_75 : decode mC_part.2.1 75 = .ok (.aload_n 0, 1) := by decide +kernel
theorem dC_part_76 : decode mC_part.2.1 76 = .ok (.getfield 11, 3) := by decide +kernel
theorem dC_part_79 : decode mC_part.2.1 79 = .ok (.aload_n 0, 1) := by decide +kernel
theorem dC_part_80 : decode mC_part.2.1 80 = .ok (.getfield 40, 3) := by decide +kernel
theorem dC_part_83 : decode mC_part.2.1 83 = .ok (.aaload, 1) := by decide +kernel
theorem dC_part_84 : decode mC_part.2.1 84 = .ok (.bipush 12, 2) := by decide +kernel
theorem dC_part_86 : decode mC_part.2.1 86 = .ok (.iload_n 1, 1) := by decide +kernel
theorem dC_part_87 : decode mC_part.2.1 87 = .ok (.iconst (-1), 1) := by decide +kernel
theorem dC_part_88 : decode mC_part.2.1 88 = .ok (.iload_n 2, 1) := by decide +kernel
theorem dC_part_89 : decode mC_part.2.1 89 = .ok (.iload_n 3, 1) := by decide +kernel
theorem dC_part_90 : decode mC_part.2.1 90 = .ok (.invokevirtual 59, 3) := by decide +kernel
theorem dC_part_93 : decode mC_part.2.1 93 = .ok (.aload_n 0, 1) := by decide +kernel
theorem dC_part_94 : decode mC_part.2.1 94 = .ok (.iload 4, 2) := by decide +kernel
theorem dC_part_96 : decode mC_part.2.1 96 = .ok (.iload 5, 2) := by decide +kernel
theorem dC_part_98 : decode mC_part.2.1 98 = .ok (.invokevirtual 63, 3) := by decide +kernel
theorem dC_part_101 : decode mC_part.2.1 101 = .ok (.ireturn, 1) := by decide +kernel
theorem dC_mark_0 : decode mC_mark.2.1 0 = .ok (.aload_n 0, 1) := by decide +kernel
theorem dC_mark_1 : decode mC_mark.2.1 1 = .ok (.iload_n 1, 1) := by decide +kernel
theorem dC_mark_2 : decode mC_mark.2.1 2 = .ok (.invokevirtual 67, 3) := by decide +kernel
theorem dC_mark_5 : decode mC_mark.2.1 5 = .ok (.ifCond .ne 5, 3) := by decide +kernel
theorem dC_mark_8 : decode mC_mark.2.1 8 = .ok (.iconst (-1), 1) := by decide +kernel
theorem dC_mark_9 : decode mC_mark.2.1 9 = .ok (.ireturn, 1) := by decide +kernel
theorem dC_mark_10 : decode mC_mark.2.1 10 = .ok (.aload_n 0, 1) := by decide +kernel
theorem dC_mark_11 : decode mC_mark.2.1 11 = .ok (.getfield 22, 3) := by decide +kernel
theorem dC_mark_14 : decode mC_mark.2.1 14 = .ok (.iload_n 1, 1) := by decide +kernel
theorem dC_mark_15 : decode mC_mark.2.1 15 = .ok (.iload_n 2, 1) := by decide +kernel
theorem dC_mark_16 : decode mC_mark.2.1 16 = .ok (.bastore, 1) := by decide +kernel
theorem dC_mark_17 : decode mC_mark.2.1 17 = .ok (.aload_n 0, 1) := by decide +kernel
theorem dC_mark_18 : decode mC_mark.2.1 18 = .ok (.invokevirtual 95, 3) := by decide +kernel
theorem dC_mark_21 : decode mC_mark.2.1 21 = .ok (.iconst 0, 1) := by decide +kernel
theorem dC_mark_22 : decode mC_mark.2.1 22 = .ok (.ireturn, 1) := by decide +kernel
theorem dC_set_0 : decode mC_set.2.1 0 = .ok (.iload_n 1, 1) := by decide +kernel
theorem dC_set_1 : decode mC_set.2.1 1 = .ok (.ifCond .lt 16, 3) := by decide +kernel
theorem dC_set_4 : decode mC_set.2.1 4 = .ok (.iload_n 1, 1) := by decide +kernel
theorem dC_set_5 : decode mC_set.2.1 5 = .ok (.iconst 4, 1) := by decide +kernel
theorem dC_set_6 : decode mC_set.2.1 6 = .ok (.if_icmp .ge 11, 3) := by decide +kernel
theorem dC_set_9 : decode mC_set.2.1 9 = .ok (.iload_n 2, 1) := by decide +kernel
theorem dC_set_10 : decode mC_set.2.1 10 = .ok (.iload_n 3, 1) := by decide +kernel
theorem dC_set_11 : decode mC_set.2.1 11 = .ok (.invokestatic 92, 3) := by decide +kernel
theorem dC_set_14 : decode mC_set.2.1 14 = .ok (.ifCond .ne 5, 3) := by decide +kernel
theorem dC_set_17 : decode mC_set.2.1 17 = .ok (.iconst (-1), 1) := by decide +kernel
theorem dC_set_18 : decode mC_set.2.1 18 = .ok (.ireturn, 1) := by decide +kernel
theorem dC_set_19 : decode mC_set.2.1 19 = .ok (.aload_n 0, 1) := by decide +kernel
theorem dC_set_20 : decode mC_set.2.1 20 = .ok (.getfield 34, 3) := by decide +kernel
theorem dC_set_23 : decode mC_set.2.1 23 = .ok (.iload_n 1, 1) := by decide +kernel
theorem dC_set_24 : decode mC_set.2.1 24 = .ok (.aaload, 1) := by decide +kernel
theorem dC_set_25 : decode mC_set.2.1 25 = .ok (.iload_n 2, 1) := by decide +kernel
theorem dC_set_26 : decode mC_set.2.1 26 = .ok (.iconst 4, 1) := by decide +kernel
theorem dC_set_27 : decode mC_set.2.1 27 = .ok (.imul, 1) := by decide +kernel
theorem dC_set_28 : decode mC_set.2.1 28 = .ok (.iload_n 3, 1) := by decide +kernel
theorem dC_set_29 : decode mC_set.2.1 29 = .ok (.iadd, 1) := by decide +kernel
theorem dC_set_30 : decode mC_set.2.1 30 = .ok (.iload 4, 2) := by decide +kernel
theorem dC_set_32 : decode mC_set.2.1 32 = .ok (.iastore, 1) := by decide +kernel
theorem dC_set_33 : decode mC_set.2.1 33 = .ok (.iconst 0, 1) := by decide +kernel
theorem dC_set_34 : decode mC_set.2.1 34 = .ok (.ireturn, 1) := by decide +kernel
theorem dC_simplify_0 : decode mC_simplify.2.1 0 = .ok (.aload_n 0, 1) := by decide +kernel
theorem dC_simplify_1 : decode mC_simplify.2.1 1 = .ok (.getfield 44, 3) := by decide +kernel
theorem dC_simplify_4 : decode mC_simplify.2.1 4 = .ok (.ifCond .eq 6, 3) := by decide +kernel
theorem dC_simplify_7 : decode mC_simplify.2.1 7 = .ok (.bipush (-4), 2) := by decide +kernel
theorem dC_simplify_9 : decode mC_simplify.2.1 9 = .ok (.ireturn, 1) := by decide +kernel
theorem dC_simplify_10 : decode mC_simplify.2.1 10 = .ok (.aload_n 0, 1) := by decide +kernel
theorem dC_simplify_11 : decode mC_simplify.2.1 11 = .ok (.getfield 37, 3) := by decide +kernel
theorem dC_simplify_14 : decode mC_simplify.2.1 14 = .ok (.iconst 0, 1) := by decide +kernel
theorem dC_simplify_15 : decode mC_simplify.2.1 15 = .ok (.invokestatic 98, 3) := by decide +kernel
theorem dC_simplify_18 : decode mC_simplify.2.1 18 = .ok (.iconst 0, 1) := by decide +kernel
theorem dC_simplify_19 : decode mC_simplify.2.1 19 = .ok (.istore_n 1, 1) := by decide +kernel
theorem dC_simplify_20 : decode mC_simplify.2.1 20 = .ok (.iconst 0, 1) := by decide +kernel
theorem dC_simplify_21 : decode mC_simplify.2.1 21 = .ok (.istore_n 2, 1) := by decide +kernel
theorem dC_simplify_22 : decode mC_simplify.2.1 22 = .ok (.iload_n 2, 1) := by decide +kernel
theorem dC_simplify_23 : decode mC_simplify.2.1 23 = .ok (.aload_n 0, 1) := by decide +kernel
theorem dC_simplify_24 : decode mC_simplify.2.1 24 = .ok (.getfield 40, 3) := by decide +kernel
theorem dC_simplify_27 : decode mC_simplify.2.1 27 = .ok (.if_icmp .ge 43, 3) := by decide +kernel
theorem dC_simplify_30 : decode mC_simplify.2.1 30 = .ok (.aload_n 0, 1) := by decide +kernel
theorem dC_simplify_31 : decode mC_simplify.2.1 31 = .ok (.aload_n 0, 1) := by decide +kernel
theorem dC_simplify_32 : decode mC_simplify.2.1 32 = .ok (.getfield 15, 3) := by decide +kernel
theorem dC_simplify_35 : decode mC_simplify.2.1 35 = .ok (.iload_n 2, 1) := by decide +kernel
theorem dC_simplify_36 : decode mC_simplify.2.1 36 = .ok (.aaload, 1) := by decide +kernel
theorem dC_simplify_37 : decode mC_simplify.2.1 37 = .ok (.invokevirtual 104, 3) := by decide +kernel
theorem dC_simplify_40 : decode mC_simplify.2.1 40 = .ok (.aload_n 0, 1) := by decide +kernel
theorem dC_simplify_41 : decode mC_simplify.2.1 41 = .ok (.getfield 18, 3) := by decide +kernel
theorem dC_simplify_44 : decode mC_simplify.2.1 44 = .ok (.iload_n 2, 1) := by decide +kernel
theorem dC_simplify_45 : decode mC_simplify.2.1 45 = .ok (.aload_n 0, 1) := by decide +kernel
theorem dC_simplify_46 : decode mC_simplify.2.1 46 = .ok (.iload_n 2, 1) := by decide +kernel
theorem dC_simplify_47 : decode mC_simplify.2.1 47 = .ok (.invokevirtual 108, 3) := by decide +kernel
theorem dC_simplify_50 : decode mC_simplify.2.1 50 = .ok (.iastore, 1) := by decide +kernel
theorem dC_simplify_51 : decode mC_simplify.2.1 51 = .ok (.aload_n 0, 1) := by decide +kernel
theorem dC_simplify_52 : decode mC_simplify.2.1 52 = .ok (.getfield 18, 3) := by decide +kernel
theorem dC_simplify_55 : decode mC_simplify.2.1 55 = .ok (.iload_n 2, 1) := by decide +kernel
theorem dC_simplify_56 : decode mC_simplify.2.1 56 = .ok (.iaload, 1) := by decide +kernel
theorem dC_simplify_57 : decode mC_simplify.2.1 57 = .ok (.iload_n 2, 1) := by decide +kernel
theorem dC_simplify_58 : decode mC_simplify.2.1 58 = .ok (.if_icmp .ne 6, 3) := by decide +kernel
theorem dC_simplify_61 : decode mC_simplify.2.1 61 = .ok (.iinc 1 1, 3) := by decide +kernel
theorem dC_simplify_64 : decode mC_simplify.2.1 64 = .ok (.iinc 2 1, 3) := by decide +kernel
theorem dC_simplify_67 : decode mC_simplify.2.1 67 = .ok (.goto (-45), 3) := by decide +kernel
theorem dC_simplify_70 : decode mC_simplify.2.1 70 = .ok (.aload_n 0, 1) := by decide +kernel
theorem dC_simplify_71 : decode mC_simplify.2.1 71 = .ok (.iconst 1, 1) := by decide +kernel
theorem dC_simplify_72 : decode mC_simplify.2.1 72 = .ok (.putfield 44, 3) := by decide +kernel
theorem dC_simplify_75 : decode mC_simplify.2.1 75 = .ok (.aload_n 0, 1) := by decide +kernel
theorem dC_simplify_76 : decode mC_simplify.2.1 76 = .ok (.iconst 0, 1) := by decide +kernel
theorem dC_simplify_77 : decode mC_simplify.2.1 77 = .ok (.putfield 48, 3) := by decide +kernel
theorem dC_simplify_80 : decode mC_simplify.2.1 80 = .ok (.aload_n 0, 1) := by decide +kernel
theorem dC_simplify_81 : decode mC_simplify.2.1 81 = .ok (.invokevirtual 112, 3) := by decide +kernel
theorem dC_simplify_84 : decode mC_simplify.2.1 84 = .ok (.iload_n 1, 1) := by decide +kernel
theorem dC_simplify_85 : decode mC_simplify.2.1 85 = .ok (.ireturn, 1) := by decide +kernel
theorem dC_work_0 : decode mC_work.2.1 0 = .ok (.iconst 0, 1) := by decide +kernel
theorem dC_work_1 : decode mC_work.2.1 1 = .ok (.istore_n 1, 1) := by decide +kernel
theorem dC_work_2 : decode mC_work.2.1 2 = .ok (.iload_n 1, 1) := by decide +kernel
theorem dC_work_3 : decode mC_work.2.1 3 = .ok (.aload_n 0, 1) := by decide +kernel
theorem dC_work_4 : decode mC_work.2.1 4 = .ok (.getfield 40, 3) := by decide +kernel
theorem dC_work_7 : decode mC_work.2.1 7 = .ok (.if_icmp .ge 23, 3) := by decide +kernel
theorem dC_work_10 : decode mC_work.2.1 10 = .ok (.aload_n 0, 1) := by decide +kernel
theorem dC_work_11 : decode mC_work.2.1 11 = .ok (.getfield 26, 3) := by decide +kernel
theorem dC_work_14 : decode mC_work.2.1 14 = .ok (.iload_n 1, 1) := by decide +kernel
theorem dC_work_15 : decode mC_work.2.1 15 = .ok (.baload, 1) := by decide +kernel
theorem dC_work_16 : decode mC_work.2.1 16 = .ok (.ifCond .eq 8, 3) := by decide +kernel
theorem dC_work_19 : decode mC_work.2.1 19 = .ok (.aload_n 0, 1) := by decide +kernel
theorem dC_work_20 : decode mC_work.2.1 20 = .ok (.iload_n 1, 1) := by decide +kernel
theorem dC_work_21 : decode mC_work.2.1 21 = .ok (.invokevirtual 115, 3) := by decide +kernel
theorem dC_work_24 : decode mC_work.2.1 24 = .ok (.iinc 1 1, 3) := by decide +kernel
theorem dC_work_27 : decode mC_work.2.1 27 = .ok (.goto (-25), 3) := by decide +kernel
theorem dC_work_30 : decode mC_work.2.1 30 = .ok (.aload_n 0, 1) := by decide +kernel
theorem dC_work_31 : decode mC_work.2.1 31 = .ok (.iconst 1, 1) := by decide +kernel
theorem dC_work_32 : decode mC_work.2.1 32 = .ok (.putfield 48, 3) := by decide +kernel
theorem dC_work_35 : decode mC_work.2.1 35 = .ok (.aload_n 0, 1) := by decide +kernel
theorem dC_work_36 : decode mC_work.2.1 36 = .ok (.invokevirtual 119, 3) := by decide +kernel
theorem dC_work_39 : decode mC_work.2.1 39 = .ok (.ireturn, 1) := by decide +kernel
theorem dC_cell_0 : decode mC_cell.2.1 0 = .ok (.aload_n 0, 1) := by decide +kernel
theorem dC_cell_1 : decode mC_cell.2.1 1 = .ok (.iload_n 1, 1) := by decide +kernel
theorem dC_cell_2 : decode mC_cell.2.1 2 = .ok (.invokevirtual 67, 3) := by decide +kernel
theorem dC_cell_5 : decode mC_cell.2.1 5 = .ok (.ifCond .eq 19, 3) := by decide +kernel
theorem dC_cell_8 : decode mC_cell.2.1 8 = .ok (.aload_n 0, 1) := by decide +kernel
theorem dC_cell_9 : decode mC_cell.2.1 9 = .ok (.getfield 48, 3) := by decide +kernel
theorem dC_cell_12 : decode mC_cell.2.1 12 = .ok (.ifCond .eq 12, 3) := by decide +kernel
theorem dC_cell_15 : decode mC_cell.2.1 15 = .ok (.aload_n 0, 1) := by decide +kernel
theorem dC_cell_16 : decode mC_cell.2.1 16 = .ok (.getfield 26, 3) := by decide +kernel
theorem dC_cell_19 : decode mC_cell.2.1 19 = .ok (.iload_n 1, 1) := by decide +kernel
theorem dC_cell_20 : decode mC_cell.2.1 20 = .ok (.baload, 1) := by decide +kernel
theorem dC_cell_21 : decode mC_cell.2.1 21 = .ok (.ifCond .ne 7, 3) := by decide +kernel
theorem dC_cell_24 : decode mC_cell.2.1 24 = .ok (.ldc2_w 123, 3) := by decide +kernel
theorem dC_cell_27 : decode mC_cell.2.1 27 = .ok (.lreturn, 1) := by decide +kernel
theorem dC_cell_28 : decode mC_cell.2.1 28 = .ok (.iload_n 2, 1) := by decide +kernel
theorem dC_cell_29 : decode mC_cell.2.1 29 = .ok (.ifCond .lt 33, 3) := by decide +kernel
theorem dC_cell_32 : decode mC_cell.2.1 32 = .ok (.iload_n 2, 1) := by decide +kernel
theorem dC_cell_33 : decode mC_cell.2.1 33 = .ok (.aload_n 0, 1) := by decide +kernel
theorem dC_cell_34 : decode mC_cell.2.1 34 = .ok (.getfield 15, 3) := by decide +kernel
theorem dC_cell_37 : decode mC_cell.2.1 37 = .ok (.iload_n 1, 1) := by decide +kernel
theorem dC_cell_38 : decode mC_cell.2.1 38 = .ok (.aaload, 1) := by decide +kernel
theorem dC_cell_39 : decode mC_cell.2.1 39 = .ok (.getfield 83, 3) := by decide +kernel
theorem dC_cell_42 : decode mC_cell.2.1 42 = .ok (.if_icmp .ge 20, 3) := by decide +kernel
theorem dC_cell_45 : decode mC_cell.2.1 45 = .ok (.iload_n 3, 1) := by decide +kernel
theorem dC_cell_46 : decode mC_cell.2.1 46 = .ok (.ifCond .lt 16, 3) := by decide +kernel
theorem dC_cell_49 : decode mC_cell.2.1 49 = .ok (.iload_n 3, 1) := by decide +kernel
theorem dC_cell_50 : decode mC_cell.2.1 50 = .ok (.aload_n 0, 1) := by decide +kernel
theorem dC_cell_51 : decode mC_cell.2.1 51 = .ok (.getfield 15, 3) := by decide +kernel
theorem dC_cell_54 : decode mC_cell.2.1 54 = .ok (.iload_n 1, 1) := by decide +kernel
theorem dC_cell_55 : decode mC_cell.2.1 55 = .ok (.aaload, 1) := by decide +kernel
theorem dC_cell_56 : decode mC_cell.2.1 56 = .ok (.getfield 89, 3) := by decide +kernel
theorem dC_cell_59 : decode mC_cell.2.1 59 = .ok (.if_icmp .lt 7, 3) := by decide +kernel
theorem dC_cell_62 : decode mC_cell.2.1 62 = .ok (.ldc2_w 123, 3) := by decide +kernel
theorem dC_cell_65 : decode mC_cell.2.1 65 = .ok (.lreturn, 1) := by decide +kernel
theorem dC_cell_66 : decode mC_cell.2.1 66 = .ok (.aload_n 0, 1) := by decide +kernel
theorem dC_cell_67 : decode mC_cell.2.1 67 = .ok (.iload_n 1, 1) := by decide +kernel
theorem dC_cell_68 : decode mC_cell.2.1 68 = .ok (.iload_n 2, 1) := by decide +kernel
theorem dC_cell_69 : decode mC_cell.2.1 69 = .ok (.iload_n 3, 1) := by decide +kernel
theorem dC_cell_70 : decode mC_cell.2.1 70 = .ok (.invokevirtual 125, 3) := by decide +kernel
theorem dC_cell_73 : decode mC_cell.2.1 73 = .ok (.i2l, 1) := by decide +kernel
theorem dC_cell_74 : decode mC_cell.2.1 74 = .ok (.lreturn, 1) := by decide +kernel
theorem dC_standIn_0 : decode mC_standIn.2.1 0 = .ok (.aload_n 0, 1) := by decide +kernel
theorem dC_standIn_1 : decode mC_standIn.2.1 1 = .ok (.iload_n 1, 1) := by decide +kernel
theorem dC_standIn_2 : decode mC_standIn.2.1 2 = .ok (.invokevirtual 67, 3) := by decide +kernel
theorem dC_standIn_5 : decode mC_standIn.2.1 5 = .ok (.ifCond .eq 12, 3) := by decide +kernel
theorem dC_standIn_8 : decode mC_standIn.2.1 8 = .ok (.aload_n 0, 1) := by decide +kernel
theorem dC_standIn_9 : decode mC_standIn.2.1 9 = .ok (.getfield 18, 3) := by decide +kernel
theorem dC_standIn_12 : decode mC_standIn.2.1 12 = .ok (.iload_n 1, 1) := by decide +kernel
theorem dC_standIn_13 : decode mC_standIn.2.1 13 = .ok (.iaload, 1) := by decide +kernel
theorem dC_standIn_14 : decode mC_standIn.2.1 14 = .ok (.goto 4, 3) := by decide +kernel
theorem dC_standIn_17 : decode mC_standIn.2.1 17 = .ok (.iconst (-1), 1) := by decide +kernel
theorem dC_standIn_18 : decode mC_standIn.2.1 18 = .ok (.ireturn, 1) := by decide +kernel
theorem dC_value_0 : decode mC_value.2.1 0 = .ok (.aload_n 0, 1) := by decide +kernel
theorem dC_value_1 : decode mC_value.2.1 1 = .ok (.iload_n 1, 1) := by decide +kernel
theorem dC_value_2 : decode mC_value.2.1 2 = .ok (.invokevirtual 67, 3) := by decide +kernel
theorem dC_value_5 : decode mC_value.2.1 5 = .ok (.ifCond .ne 5, 3) := by decide +kernel
theorem dC_value_8 : decode mC_value.2.1 8 = .ok (.iconst (-1), 1) := by decide +kernel
theorem dC_value_9 : decode mC_value.2.1 9 = .ok (.ireturn, 1) := by decide +kernel
theorem dC_value_10 : decode mC_value.2.1 10 = .ok (.aload_n 0, 1) := by decide +kernel
theorem dC_value_11 : decode mC_value.2.1 11 = .ok (.getfield 15, 3) := by decide +kernel
theorem dC_value_14 : decode mC_value.2.1 14 = .ok (.iload_n 1, 1) := by decide +kernel
theorem dC_value_15 : decode mC_value.2.1 15 = .ok (.aaload, 1) := by decide +kernel
theorem dC_value_16 : decode mC_value.2.1 16 = .ok (.astore_n 3, 1) := by decide +kernel
theorem dC_value_17 : decode mC_value.2.1 17 = .ok (.iload_n 2, 1) := by decide +kernel
theorem dC_value_18 : decode mC_value.2.1 18 = .ok (.tableswitch 96 0 7 #[46, 51, 56, 61, 66, 71, 76, 81], 46) := by decide +kernel
theorem dC_value_64 : decode mC_value.2.1 64 = .ok (.aload_n 3, 1) := by decide +kernel
theorem dC_value_65 : decode mC_value.2.1 65 = .ok (.getfield 129, 3) := by decide +kernel
theorem dC_value_68 : decode mC_value.2.1 68 = .ok (.ireturn, 1) := by decide +kernel
theorem dC_value_69 : decode mC_value.2.1 69 = .ok (.aload_n 3, 1) := by decide +kernel
theorem dC_value_70 : decode mC_value.2.1 70 = .ok (.getfield 83, 3) := by decide +kernel
theorem dC_value_73 : decode mC_value.2.1 73 = .ok (.ireturn, 1) := by decide +kernel
theorem dC_value_74 : decode mC_value.2.1 74 = .ok (.aload_n 3, 1) := by decide +kernel
theorem dC_value_75 : decode mC_value.2.1 75 = .ok (.getfield 89, 3) := by decide +kernel
theorem dC_value_78 : decode mC_value.2.1 78 = .ok (.ireturn, 1) := by decide +kernel
theorem dC_value_79 : decode mC_value.2.1 79 = .ok (.aload_n 3, 1) := by decide +kernel
theorem dC_value_80 : decode mC_value.2.1 80 = .ok (.getfield 132, 3) := by decide +kernel
theorem dC_value_83 : decode mC_value.2.1 83 = .ok (.ireturn, 1) := by decide +kernel
theorem dC_value_84 : decode mC_value.2.1 84 = .ok (.aload_n 3, 1) := by decide +kernel
theorem dC_value_85 : decode mC_value.2.1 85 = .ok (.getfield 135, 3) := by decide +kernel
theorem dC_value_88 : decode mC_value.2.1 88 = .ok (.ireturn, 1) := by decide +kernel
theorem dC_value_89 : decode mC_value.2.1 89 = .ok (.aload_n 3, 1) := by decide +kernel
theorem dC_value_90 : decode mC_value.2.1 90 = .ok (.getfield 138, 3) := by decide +kernel
theorem dC_value_93 : decode mC_value.2.1 93 = .ok (.ireturn, 1) := by decide +kernel
theorem dC_value_94 : decode mC_value.2.1 94 = .ok (.aload_n 3, 1) := by decide +kernel
theorem dC_value_95 : decode mC_value.2.1 95 = .ok (.getfield 141, 3) := by decide +kernel
theorem dC_value_98 : decode mC_value.2.1 98 = .ok (.ireturn, 1) := by decide +kernel
theorem dC_value_99 : decode mC_value.2.1 99 = .ok (.aload_n 0, 1) := by decide +kernel
theorem dC_value_100 : decode mC_value.2.1 100 = .ok (.getfield 26, 3) := by decide +kernel
theorem dC_value_103 : decode mC_value.2.1 103 = .ok (.iload_n 1, 1) := by decide +kernel
theorem dC_value_104 : decode mC_value.2.1 104 = .ok (.baload, 1) := by decide +kernel
theorem dC_value_105 : decode mC_value.2.1 105 = .ok (.ifCond .eq 7, 3) := by decide +kernel
theorem dC_value_108 : decode mC_value.2.1 108 = .ok (.iconst 1, 1) := by decide +kernel
theorem dC_value_109 : decode mC_value.2.1 109 = .ok (.goto 4, 3) := by decide +kernel
theorem dC_value_112 : decode mC_value.2.1 112 = .ok (.iconst 0, 1) := by decide +kernel
theorem dC_value_113 : decode mC_value.2.1 113 = .ok (.ireturn, 1) := by decide +kernel
theorem dC_value_114 : decode mC_value.2.1 114 = .ok (.iconst (-1), 1) := by decide +kernel
theorem dC_value_115 : decode mC_value.2.1 115 = .ok (.ireturn, 1) := by decide +kernel
theorem dC_count_0 : decode mC_count.2.1 0 = .ok (.iload_n 1, 1) := by decide +kernel
theorem dC_count_1 : decode mC_count.2.1 1 = .ok (.iconst 1, 1) := by decide +kernel
theorem dC_count_2 : decode mC_count.2.1 2 = .ok (.if_icmp .lt 16, 3) := by decide +kernel
theorem dC_count_5 : decode mC_count.2.1 5 = .ok (.iload_n 1, 1) := by decide +kernel
theorem dC_count_6 : decode mC_count.2.1 6 = .ok (.bipush 6, 2) := by decide +kernel
theorem dC_count_8 : decode mC_count.2.1 8 = .ok (.if_icmp .gt 10, 3) := by decide +kernel
theorem dC_count_11 : decode mC_count.2.1 11 = .ok (.aload_n 0, 1) := by decide +kernel
theorem dC_count_12 : decode mC_count.2.1 12 = .ok (.getfield 37, 3) := by decide +kernel
theorem dC_count_15 : decode mC_count.2.1 15 = .ok (.iload_n 1, 1) := by decide +kernel
theorem dC_count_16 : decode mC_count.2.1 16 = .ok (.iaload, 1) := by decide +kernel
theorem dC_count_17 : decode mC_count.2.1 17 = .ok (.ireturn, 1) := by decide +kernel
theorem dC_count_18 : decode mC_count.2.1 18 = .ok (.iload_n 1, 1) := by decide +kernel
theorem dC_count_19 : decode mC_count.2.1 19 = .ok (.tableswitch 81 0 9 #[53, 81, 81, 81, 81, 81, 81, 58, 63, 68], 53) := by decide +kernel
theorem dC_count_72 : decode mC_count.2.1 72 = .ok (.aload_n 0, 1) := by decide +kernel
theorem dC_count_73 : decode mC_count.2.1 73 = .ok (.getfield 40, 3) := by decide +kernel
theorem dC_count_76 : decode mC_count.2.1 76 = .ok (.ireturn, 1) := by decide +kernel
theorem dC_count_77 : decode mC_count.2.1 77 = .ok (.aload_n 0, 1) := by decide +kernel
theorem dC_count_78 : decode mC_count.2.1 78 = .ok (.invokevirtual 144, 3) := by decide +kernel
theorem dC_count_81 : decode mC_count.2.1 81 = .ok (.ireturn, 1) := by decide +kernel
theorem dC_count_82 : decode mC_count.2.1 82 = .ok (.aload_n 0, 1) := by decide +kernel
theorem dC_count_83 : decode mC_count.2.1 83 = .ok (.invokevirtual 119, 3) := by decide +kernel
theorem dC_count_86 : decode mC_count.2.1 86 = .ok (.ireturn, 1) := by decide +kernel
theorem dC_count_87 : decode mC_count.2.1 87 = .ok (.aload_n 0, 1) := by decide +kernel
theorem dC_count_88 : decode mC_count.2.1 88 = .ok (.getfield 44, 3) := by decide +kernel
theorem dC_count_91 : decode mC_count.2.1 91 = .ok (.ifCond .eq 7, 3) := by decide +kernel
theorem dC_count_94 : decode mC_count.2.1 94 = .ok (.iconst 1, 1) := by decide +kernel
theorem dC_count_95 : decode mC_count.2.1 95 = .ok (.goto 4, 3) := by decide +kernel
theorem dC_count_98 : decode mC_count.2.1 98 = .ok (.iconst 0, 1) := by decide +kernel
theorem dC_count_99 : decode mC_count.2.1 99 = .ok (.ireturn, 1) := by decide +kernel
theorem dC_count_100 : decode mC_count.2.1 100 = .ok (.iconst (-1), 1) := by decide +kernel
theorem dC_count_101 : decode mC_count.2.1 101 = .ok (.ireturn, 1) := by decide +kernel
theorem dC_isValue_0 : decode mC_isValue.2.1 0 = .ok (.iload_n 1, 1) := by decide +kernel
theorem dC_isValue_1 : decode mC_isValue.2.1 1 = .ok (.ifCond .lt 15, 3) := by decide +kernel
theorem dC_isValue_4 : decode mC_isValue.2.1 4 = .ok (.iload_n 1, 1) := by decide +kernel
theorem dC_isValue_5 : decode mC_isValue.2.1 5 = .ok (.aload_n 0, 1) := by decide +kernel
theorem dC_isValue_6 : decode mC_isValue.2.1 6 = .ok (.getfield 40, 3) := by decide +kernel
theorem dC_isValue_9 : decode mC_isValue.2.1 9 = .ok (.if_icmp .ge 7, 3) := by decide +kernel
theorem dC_isValue_12 : decode mC_isValue.2.1 12 = .ok (.iconst 1, 1) := by decide +kernel
theorem dC_isValue_13 : decode mC_isValue.2.1 13 = .ok (.goto 4, 3) := by decide +kernel
theorem dC_isValue_16 : decode mC_isValue.2.1 16 = .ok (.iconst 0, 1) := by decide +kernel
theorem dC_isValue_17 : decode mC_isValue.2.1 17 = .ok (.ireturn, 1) := by decide +kernel
theorem dC_isShape_0 : decode mC_isShape.2.1 0 = .ok (.iload_n 0, 1) := by decide +kernel
theorem dC_isShape_1 : decode mC_isShape.2.1 1 = .ok (.iconst 1, 1) := by decide +kernel
theorem dC_isShape_2 : decode mC_isShape.2.1 2 = .ok (.if_icmp .lt 22, 3) := by decide +kernel
theorem dC_isShape_5 : decode mC_isShape.2.1 5 = .ok (.iload_n 0, 1) := by decide +kernel
theorem dC_isShape_6 : decode mC_isShape.2.1 6 = .ok (.iconst 4, 1) := by decide +kernel
theorem dC_isShape_7 : decode mC_isShape.2.1 7 = .ok (.if_icmp .gt 17, 3) := by decide +kernel
theorem dC_isShape_10 : decode mC_isShape.2.1 10 = .ok (.iload_n 1, 1) := by decide +kernel
theorem dC_isShape_11 : decode mC_isShape.2.1 11 = .ok (.iconst 1, 1) := by decide +kernel
theorem dC_isShape_12 : decode mC_isShape.2.1 12 = .ok (.if_icmp .lt 12, 3) := by decide +kernel
theorem dC_isShape_15 : decode mC_isShape.2.1 15 = .ok (.iload_n 1, 1) := by decide +kernel
theorem dC_isShape_16 : decode mC_isShape.2.1 16 = .ok (.iconst 4, 1) := by decide +kernel
theorem dC_isShape_17 : decode mC_isShape.2.1 17 = .ok (.if_icmp .gt 7, 3) := by decide +kernel
theorem dC_isShape_20 : decode mC_isShape.2.1 20 = .ok (.iconst 1, 1) := by decide +kernel
theorem dC_isShape_21 : decode mC_isShape.2.1 21 = .ok (.goto 4, 3) := by decide +kernel
theorem dC_isShape_24 : decode mC_isShape.2.1 24 = .ok (.iconst 0, 1) := by decide +kernel
theorem dC_isShape_25 : decode mC_isShape.2.1 25 = .ok (.ireturn, 1) := by decide +kernel
theorem dC_isPlace_0 : decode mC_isPlace.2.1 0 = .ok (.iload_n 0, 1) := by decide +kernel
theorem dC_isPlace_1 : decode mC_isPlace.2.1 1 = .ok (.ifCond .lt 21, 3) := by decide +kernel
theorem dC_isPlace_4 : decode mC_isPlace.2.1 4 = .ok (.iload_n 0, 1) := by decide +kernel
theorem dC_isPlace_5 : decode mC_isPlace.2.1 5 = .ok (.iconst 4, 1) := by decide +kernel
theorem dC_isPlace_6 : decode mC_isPlace.2.1 6 = .ok (.if_icmp .ge 16, 3) := by decide +kernel
theorem dC_isPlace_9 : decode mC_isPlace.2.1 9 = .ok (.iload_n 1, 1) := by decide +kernel
theorem dC_isPlace_10 : decode mC_isPlace.2.1 10 = .ok (.ifCond .lt 12, 3) := by decide +kernel
theorem dC_isPlace_13 : decode mC_isPlace.2.1 13 = .ok (.iload_n 1, 1) := by decide +kernel
theorem dC_isPlace_14 : decode mC_isPlace.2.1 14 = .ok (.iconst 4, 1) := by decide +kernel
theorem dC_isPlace_15 : decode mC_isPlace.2.1 15 = .ok (.if_icmp .ge 7, 3) := by decide +kernel
theorem dC_isPlace_18 : decode mC_isPlace.2.1 18 = .ok (.iconst 1, 1) := by decide +kernel
theorem dC_isPlace_19 : decode mC_isPlace.2.1 19 = .ok (.goto 4, 3) := by decide +kernel
theorem dC_isPlace_22 : decode mC_isPlace.2.1 22 = .ok (.iconst 0, 1) := by decide +kernel
theorem dC_isPlace_23 : decode mC_isPlace.2.1 23 = .ok (.ireturn, 1) := by decide +kernel
theorem dC_isSourceNumber_0 : decode mC_isSourceNumber.2.1 0 = .ok (.iload_n 0, 1) := by decide +kernel
theorem dC_isSourceNumber_1 : decode mC_isSourceNumber.2.1 1 = .ok (.iconst 1, 1) := by decide +kernel
theorem dC_isSourceNumber_2 : decode mC_isSourceNumber.2.1 2 = .ok (.if_icmp .ne 5, 3) := by decide +kernel
theorem dC_isSourceNumber_5 : decode mC_isSourceNumber.2.1 5 = .ok (.iconst 1, 1) := by decide +kernel
theorem dC_isSourceNumber_6 : decode mC_isSourceNumber.2.1 6 = .ok (.ireturn, 1) := by decide +kernel
theorem dC_isSourceNumber_7 : decode mC_isSourceNumber.2.1 7 = .ok (.iload_n 1, 1) := by decide +kernel
theorem dC_isSourceNumber_8 : decode mC_isSourceNumber.2.1 8 = .ok (.ifCond .lt 20, 3) := by decide +kernel
theorem dC_isSourceNumber_11 : decode mC_isSourceNumber.2.1 11 = .ok (.iload_n 1, 1) := by decide +kernel
theorem dC_isSourceNumber_12 : decode mC_isSourceNumber.2.1 12 = .ok (.iload_n 0, 1) := by decide +kernel
theorem dC_isSourceNumber_13 : decode mC_isSourceNumber.2.1 13 = .ok (.ifCond .ne 7, 3) := by decide +kernel
theorem dC_isSourceNumber_16 : decode mC_isSourceNumber.2.1 16 = .ok (.iconst 4, 1) := by decide +kernel
theorem dC_isSourceNumber_17 : decode mC_isSourceNumber.2.1 17 = .ok (.goto 4, 3) := by decide +kernel
theorem dC_isSourceNumber_20 : decode mC_isSourceNumber.2.1 20 = .ok (.iconst 2, 1) := by decide +kernel
theorem dC_isSourceNumber_21 : decode mC_isSourceNumber.2.1 21 = .ok (.if_icmp .ge 7, 3) := by decide +kernel
theorem dC_isSourceNumber_24 : decode mC_isSourceNumber.2.1 24 = .ok (.iconst 1, 1) := by decide +kernel
theorem dC_isSourceNumber_25 : decode mC_isSourceNumber.2.1 25 = .ok (.goto 4, 3) := by decide +kernel
theorem dC_isSourceNumber_28 : decode mC_isSourceNumber.2.1 28 = .ok (.iconst 0, 1) := by decide +kernel
theorem dC_isSourceNumber_29 : decode mC_isSourceNumber.2.1 29 = .ok (.ireturn, 1) := by decide +kernel
theorem dC_spreads_0 : decode mC_spreads.2.1 0 = .ok (.iload_n 0, 1) := by decide +kernel
theorem dC_spreads_1 : decode mC_spreads.2.1 1 = .ok (.iconst 1, 1) := by decide +kernel
theorem dC_spreads_2 : decode mC_spreads.2.1 2 = .ok (.if_icmp .eq 8, 3) := by decide +kernel
theorem dC_spreads_5 : decode mC_spreads.2.1 5 = .ok (.iload_n 0, 1) := by decide +kernel
theorem dC_spreads_6 : decode mC_spreads.2.1 6 = .ok (.iload_n 1, 1) := by decide +kernel
theorem dC_spreads_7 : decode mC_spreads.2.1 7 = .ok (.if_icmp .ne 7, 3) := by decide +kernel
theorem dC_spreads_10 : decode mC_spreads.2.1 10 = .ok (.iconst 1, 1) := by decide +kernel
theorem dC_spreads_11 : decode mC_spreads.2.1 11 = .ok (.goto 4, 3) := by decide +kernel
theorem dC_spreads_14 : decode mC_spreads.2.1 14 = .ok (.iconst 0, 1) := by decide +kernel
theorem dC_spreads_15 : decode mC_spreads.2.1 15 = .ok (.ireturn, 1) := by decide +kernel
theorem dC_shapesFit_0 : decode mC_shapesFit.2.1 0 = .ok (.iload_n 0, 1) := by decide +kernel
theorem dC_shapesFit_1 : decode mC_shapesFit.2.1 1 = .ok (.bipush 8, 2) := by decide +kernel
theorem dC_shapesFit_3 : decode mC_shapesFit.2.1 3 = .ok (.if_icmp .ne 22, 3) := by decide +kernel
theorem dC_shapesFit_6 : decode mC_shapesFit.2.1 6 = .ok (.aload_n 1, 1) := by decide +kernel
theorem dC_shapesFit_7 : decode mC_shapesFit.2.1 7 = .ok (.getfield 89, 3) := by decide +kernel
theorem dC_shapesFit_10 : decode mC_shapesFit.2.1 10 = .ok (.aload_n 2, 1) := by decide +kernel
theorem dC_shapesFit_11 : decode mC_shapesFit.2.1 11 = .ok (.getfield 83, 3) := by decide +kernel
theorem dC_shapesFit_14 : decode mC_shapesFit.2.1 14 = .ok (.if_icmp .ne 7, 3) := by decide +kernel
theorem dC_shapesFit_17 : decode mC_shapesFit.2.1 17 = .ok (.iconst 1, 1) := by decide +kernel
theorem dC_shapesFit_18 : decode mC_shapesFit.2.1 18 = .ok (.goto 12, 3) := by decide +kernel
theorem dC_shapesFit_21 : decode mC_shapesFit.2.1 21 = .ok (.iconst 0, 1) := by decide +kernel
theorem dC_shapesFit_22 : decode mC_shapesFit.2.1 22 = .ok (.goto 8, 3) := by decide +kernel
theorem dC_shapesFit_25 : decode mC_shapesFit.2.1 25 = .ok (.aload_n 1, 1) := by decide +kernel
theorem dC_shapesFit_26 : decode mC_shapesFit.2.1 26 = .ok (.aload_n 2, 1) := by decide +kernel
theorem dC_shapesFit_27 : decode mC_shapesFit.2.1 27 = .ok (.invokevirtual 147, 3) := by decide +kernel
theorem dC_shapesFit_30 : decode mC_shapesFit.2.1 30 = .ok (.ireturn, 1) := by decide +kernel
theorem dC_rowsOf_0 : decode mC_rowsOf.2.1 0 = .ok (.iload_n 0, 1) := by decide +kernel
theorem dC_rowsOf_1 : decode mC_rowsOf.2.1 1 = .ok (.bipush 7, 2) := by decide +kernel
theorem dC_rowsOf_3 : decode mC_rowsOf.2.1 3 = .ok (.if_icmp .ne 8, 3) := by decide +kernel
theorem dC_rowsOf_6 : decode mC_rowsOf.2.1 6 = .ok (.aload_n 1, 1) := by decide +kernel
theorem dC_rowsOf_7 : decode mC_rowsOf.2.1 7 = .ok (.getfield 89, 3) := by decide +kernel
theorem dC_rowsOf_10 : decode mC_rowsOf.2.1 10 = .ok (.ireturn, 1) := by decide +kernel
theorem dC_rowsOf_11 : decode mC_rowsOf.2.1 11 = .ok (.iload_n 0, 1) := by decide +kernel
theorem dC_rowsOf_12 : decode mC_rowsOf.2.1 12 = .ok (.bipush 9, 2) := by decide +kernel
theorem dC_rowsOf_14 : decode mC_rowsOf.2.1 14 = .ok (.if_icmp .ne 11, 3) := by decide +kernel
theorem dC_rowsOf_17 : decode mC_rowsOf.2.1 17 = .ok (.iload_n 2, 1) := by decide +kernel
theorem dC_rowsOf_18 : decode mC_rowsOf.2.1 18 = .ok (.ifCond .ne 7, 3) := by decide +kernel
theorem dC_rowsOf_21 : decode mC_rowsOf.2.1 21 = .ok (.iconst 1, 1) := by decide +kernel
theorem dC_rowsOf_22 : decode mC_rowsOf.2.1 22 = .ok (.goto 7, 3) := by decide +kernel
theorem dC_rowsOf_25 : decode mC_rowsOf.2.1 25 = .ok (.aload_n 1, 1) := by decide +kernel
theorem dC_rowsOf_26 : decode mC_rowsOf.2.1 26 = .ok (.getfield 83, 3) := by decide +kernel
theorem dC_rowsOf_29 : decode mC_rowsOf.2.1 29 = .ok (.ireturn, 1) := by decide +kernel
theorem dC_columnsOf_0 : decode mC_columnsOf.2.1 0 = .ok (.iload_n 0, 1) := by decide +kernel
theorem dC_columnsOf_1 : decode mC_columnsOf.2.1 1 = .ok (.bipush 7, 2) := by decide +kernel
theorem dC_columnsOf_3 : decode mC_columnsOf.2.1 3 = .ok (.if_icmp .ne 8, 3) := by decide +kernel
theorem dC_columnsOf_6 : decode mC_columnsOf.2.1 6 = .ok (.aload_n 1, 1) := by decide +kernel
theorem dC_columnsOf_7 : decode mC_columnsOf.2.1 7 = .ok (.getfield 83, 3) := by decide +kernel
theorem dC_columnsOf_10 : decode mC_columnsOf.2.1 10 = .ok (.ireturn, 1) := by decide +kernel
theorem dC_columnsOf_11 : decode mC_columnsOf.2.1 11 = .ok (.iload_n 0, 1) := by decide +kernel
theorem dC_columnsOf_12 : decode mC_columnsOf.2.1 12 = .ok (.bipush 9, 2) := by decide +kernel
theorem dC_columnsOf_14 : decode mC_columnsOf.2.1 14 = .ok (.if_icmp .ne 12, 3) := by decide +kernel
theorem dC_columnsOf_17 : decode mC_columnsOf.2.1 17 = .ok (.iload_n 3, 1) := by decide +kernel
theorem dC_columnsOf_18 : decode mC_columnsOf.2.1 18 = .ok (.iconst 1, 1) := by decide +kernel
theorem dC_columnsOf_19 : decode mC_columnsOf.2.1 19 = .ok (.if_icmp .ne 7, 3) := by decide +kernel
theorem dC_columnsOf_22 : decode mC_columnsOf.2.1 22 = .ok (.iconst 1, 1) := by decide +kernel
theorem dC_columnsOf_23 : decode mC_columnsOf.2.1 23 = .ok (.goto 7, 3) := by decide +kernel
theorem dC_columnsOf_26 : decode mC_columnsOf.2.1 26 = .ok (.aload_n 2, 1) := by decide +kernel
theorem dC_columnsOf_27 : decode mC_columnsOf.2.1 27 = .ok (.getfield 89, 3) := by decide +kernel
theorem dC_columnsOf_30 : decode mC_columnsOf.2.1 30 = .ok (.ireturn, 1) := by decide +kernel
theorem dC_addWithShape_0 : decode mC_addWithShape.2.1 0 = .ok (.aload_n 0, 1) := by decide +kernel
theorem dC_addWithShape_1 : decode mC_addWithShape.2.1 1 = .ok (.getfield 40, 3) := by decide +kernel
theorem dC_addWithShape_4 : decode mC_addWithShape.2.1 4 = .ok (.istore_n 3, 1) := by decide +kernel
theorem dC_addWithShape_5 : decode mC_addWithShape.2.1 5 = .ok (.aload_n 0, 1) := by decide +kernel
theorem dC_addWithShape_6 : decode mC_addWithShape.2.1 6 = .ok (.getfield 11, 3) := by decide +kernel
theorem dC_addWithShape_9 : decode mC_addWithShape.2.1 9 = .ok (.iload_n 3, 1) := by decide +kernel
theorem dC_addWithShape_10 : decode mC_addWithShape.2.1 10 = .ok (.aaload, 1) := by decide +kernel
theorem dC_addWithShape_11 : decode mC_addWithShape.2.1 11 = .ok (.iload_n 1, 1) := by decide +kernel
theorem dC_addWithShape_12 : decode mC_addWithShape.2.1 12 = .ok (.iload_n 2, 1) := by decide +kernel
theorem dC_addWithShape_13 : decode mC_addWithShape.2.1 13 = .ok (.invokevirtual 151, 3) := by decide +kernel
theorem dC_addWithShape_16 : decode mC_addWithShape.2.1 16 = .ok (.aload_n 0, 1) := by decide +kernel
theorem dC_addWithShape_17 : decode mC_addWithShape.2.1 17 = .ok (.dup, 1) := by decide +kernel
theorem dC_addWithShape_18 : decode mC_addWithShape.2.1 18 = .ok (.getfield 40, 3) := by decide +kernel
theorem dC_addWithShape_21 : decode mC_addWithShape.2.1 21 = .ok (.iconst 1, 1) := by decide +kernel
theorem dC_addWithShape_22 : decode mC_addWithShape.2.1 22 = .ok (.iadd, 1) := by decide +kernel
theorem dC_addWithShape_23 : decode mC_addWithShape.2.1 23 = .ok (.putfield 40, 3) := by decide +kernel
theorem dC_addWithShape_26 : decode mC_addWithShape.2.1 26 = .ok (.aload_n 0, 1) := by decide +kernel
theorem dC_addWithShape_27 : decode mC_addWithShape.2.1 27 = .ok (.invokevirtual 95, 3) := by decide +kernel
theorem dC_addWithShape_30 : decode mC_addWithShape.2.1 30 = .ok (.iload_n 3, 1) := by decide +kernel
theorem dC_addWithShape_31 : decode mC_addWithShape.2.1 31 = .ok (.ireturn, 1) := by decide +kernel
