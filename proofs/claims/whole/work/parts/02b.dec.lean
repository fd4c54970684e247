theorem dC_undoSimplifying_0 : decode mC_undoSimplifying.2.1 0 = .ok (.iconst 0, 1) := by decide +kernel
theorem dC_undoSimplifying_1 : decode mC_undoSimplifying.2.1 1 = .ok (.istore_n 1, 1) := by decide +kernel
theorem dC_undoSimplifying_2 : decode mC_undoSimplifying.2.1 2 = .ok (.iload_n 1, 1) := by decide +kernel
theorem dC_undoSimplifying_3 : decode mC_undoSimplifying.2.1 3 = .ok (.aload_n 0, 1) := by decide +kernel
theorem dC_undoSimplifying_4 : decode mC_undoSimplifying.2.1 4 = .ok (.getfield 40, 3) := by decide +kernel
theorem dC_undoSimplifying_7 : decode mC_undoSimplifying.2.1 7 = .ok (.if_icmp .ge 31, 3) := by decide +kernel
theorem dC_undoSimplifying_10 : decode mC_undoSimplifying.2.1 10 = .ok (.aload_n 0, 1) := by decide +kernel
theorem dC_undoSimplifying_11 : decode mC_undoSimplifying.2.1 11 = .ok (.getfield 15, 3) := by decide +kernel
theorem dC_undoSimplifying_14 : decode mC_undoSimplifying.2.1 14 = .ok (.iload_n 1, 1) := by decide +kernel
theorem dC_undoSimplifying_15 : decode mC_undoSimplifying.2.1 15 = .ok (.aaload, 1) := by decide +kernel
theorem dC_undoSimplifying_16 : decode mC_undoSimplifying.2.1 16 = .ok (.aload_n 0, 1) := by decide +kernel
theorem dC_undoSimplifying_17 : decode mC_undoSimplifying.2.1 17 = .ok (.getfield 11, 3) := by decide +kernel
theorem dC_undoSimplifying_20 : decode mC_undoSimplifying.2.1 20 = .ok (.iload_n 1, 1) := by decide +kernel
theorem dC_undoSimplifying_21 : decode mC_undoSimplifying.2.1 21 = .ok (.aaload, 1) := by decide +kernel
theorem dC_undoSimplifying_22 : decode mC_undoSimplifying.2.1 22 = .ok (.invokevirtual 155, 3) := by decide +kernel
theorem dC_undoSimplifying_25 : decode mC_undoSimplifying.2.1 25 = .ok (.aload_n 0, 1) := by decide +kernel
theorem dC_undoSimplifying_26 : decode mC_undoSimplifying.2.1 26 = .ok (.getfield 18, 3) := by decide +kernel
theorem dC_undoSimplifying_29 : decode mC_undoSimplifying.2.1 29 = .ok (.iload_n 1, 1) := by decide +kernel
theorem dC_undoSimplifying_30 : decode mC_undoSimplifying.2.1 30 = .ok (.iload_n 1, 1) := by decide +kernel
theorem dC_undoSimplifying_31 : decode mC_undoSimplifying.2.1 31 = .ok (.iastore, 1) := by decide +kernel
theorem dC_undoSimplifying_32 : decode mC_undoSimplifying.2.1 32 = .ok (.iinc 1 1, 3) := by decide +kernel
theorem dC_undoSimplifying_35 : decode mC_undoSimplifying.2.1 35 = .ok (.goto (-33), 3) := by decide +kernel
theorem dC_undoSimplifying_38 : decode mC_undoSimplifying.2.1 38 = .ok (.aload_n 0, 1) := by decide +kernel
theorem dC_undoSimplifying_39 : decode mC_undoSimplifying.2.1 39 = .ok (.iconst 0, 1) := by decide +kernel
theorem dC_undoSimplifying_40 : decode mC_undoSimplifying.2.1 40 = .ok (.putfield 44, 3) := by decide +kernel
theorem dC_undoSimplifying_43 : decode mC_undoSimplifying.2.1 43 = .ok (.aload_n 0, 1) := by decide +kernel
theorem dC_undoSimplifying_44 : decode mC_undoSimplifying.2.1 44 = .ok (.iconst 0, 1) := by decide +kernel
theorem dC_undoSimplifying_45 : decode mC_undoSimplifying.2.1 45 = .ok (.putfield 48, 3) := by decide +kernel
theorem dC_undoSimplifying_48 : decode mC_undoSimplifying.2.1 48 = .ok (.aload_n 0, 1) := by decide +kernel
theorem dC_undoSimplifying_49 : decode mC_undoSimplifying.2.1 49 = .ok (.invokevirtual 112, 3) := by decide +kernel
theorem dC_undoSimplifying_52 : decode mC_undoSimplifying.2.1 52 = .ok (.return_, 1) := by decide +kernel
theorem dC_findLive_0 : decode mC_findLive.2.1 0 = .ok (.iconst 0, 1) := by decide +kernel
theorem dC_findLive_1 : decode mC_findLive.2.1 1 = .ok (.istore_n 1, 1) := by decide +kernel
theorem dC_findLive_2 : decode mC_findLive.2.1 2 = .ok (.iload_n 1, 1) := by decide +kernel
theorem dC_findLive_3 : decode mC_findLive.2.1 3 = .ok (.aload_n 0, 1) := by decide +kernel
theorem dC_findLive_4 : decode mC_findLive.2.1 4 = .ok (.getfield 40, 3) := by decide +kernel
theorem dC_findLive_7 : decode mC_findLive.2.1 7 = .ok (.if_icmp .ge 16, 3) := by decide +kernel
theorem dC_findLive_10 : decode mC_findLive.2.1 10 = .ok (.aload_n 0, 1) := by decide +kernel
theorem dC_findLive_11 : decode mC_findLive.2.1 11 = .ok (.getfield 26, 3) := by decide +kernel
theorem dC_findLive_14 : decode mC_findLive.2.1 14 = .ok (.iload_n 1, 1) := by decide +kernel
theorem dC_findLive_15 : decode mC_findLive.2.1 15 = .ok (.iconst 0, 1) := by decide +kernel
theorem dC_findLive_16 : decode mC_findLive.2.1 16 = .ok (.bastore, 1) := by decide +kernel
theorem dC_findLive_17 : decode mC_findLive.2.1 17 = .ok (.iinc 1 1, 3) := by decide +kernel
theorem dC_findLive_20 : decode mC_findLive.2.1 20 = .ok (.goto (-18), 3) := by decide +kernel
theorem dC_findLive_23 : decode mC_findLive.2.1 23 = .ok (.iconst 0, 1) := by decide +kernel
theorem dC_findLive_24 : decode mC_findLive.2.1 24 = .ok (.istore_n 1, 1) := by decide +kernel
theorem dC_findLive_25 : decode mC_findLive.2.1 25 = .ok (.iload_n 1, 1) := by decide +kernel
theorem dC_findLive_26 : decode mC_findLive.2.1 26 = .ok (.aload_n 0, 1) := by decide +kernel
theorem dC_findLive_27 : decode mC_findLive.2.1 27 = .ok (.getfield 40, 3) := by decide +kernel
theorem dC_findLive_30 : decode mC_findLive.2.1 30 = .ok (.if_icmp .ge 30, 3) := by decide +kernel
theorem dC_findLive_33 : decode mC_findLive.2.1 33 = .ok (.aload_n 0, 1) := by decide +kernel
theorem dC_findLive_34 : decode mC_findLive.2.1 34 = .ok (.getfield 22, 3) := by decide +kernel
theorem dC_findLive_37 : decode mC_findLive.2.1 37 = .ok (.iload_n 1, 1) := by decide +kernel
theorem dC_findLive_38 : decode mC_findLive.2.1 38 = .ok (.baload, 1) := by decide +kernel
theorem dC_findLive_39 : decode mC_findLive.2.1 39 = .ok (.ifCond .eq 15, 3) := by decide +kernel
theorem dC_findLive_42 : decode mC_findLive.2.1 42 = .ok (.aload_n 0, 1) := by decide +kernel
theorem dC_findLive_43 : decode mC_findLive.2.1 43 = .ok (.getfield 26, 3) := by decide +kernel
theorem dC_findLive_46 : decode mC_findLive.2.1 46 = .ok (.aload_n 0, 1) := by decide +kernel
theorem dC_findLive_47 : decode mC_findLive.2.1 47 = .ok (.getfield 18, 3) := by decide +kernel
theorem dC_findLive_50 : decode mC_findLive.2.1 50 = .ok (.iload_n 1, 1) := by decide +kernel
theorem dC_findLive_51 : decode mC_findLive.2.1 51 = .ok (.iaload, 1) := by decide +kernel
theorem dC_findLive_52 : decode mC_findLive.2.1 52 = .ok (.iconst 1, 1) := by decide +kernel
theorem dC_findLive_53 : decode mC_findLive.2.1 53 = .ok (.bastore, 1) := by decide +kernel
theorem dC_findLive_54 : decode mC_findLive.2.1 54 = .ok (.iinc 1 1, 3) := by decide +kernel
theorem dC_findLive_57 : decode mC_findLive.2.1 57 = .ok (.goto (-32), 3) := by decide +kernel
theorem dC_findLive_60 : decode mC_findLive.2.1 60 = .ok (.aload_n 0, 1) := by decide +kernel
theorem dC_findLive_61 : decode mC_findLive.2.1 61 = .ok (.getfield 40, 3) := by decide +kernel
theorem dC_findLive_64 : decode mC_findLive.2.1 64 = .ok (.iconst 1, 1) := by decide +kernel
theorem dC_findLive_65 : decode mC_findLive.2.1 65 = .ok (.isub, 1) := by decide +kernel
theorem dC_findLive_66 : decode mC_findLive.2.1 66 = .ok (.istore_n 1, 1) := by decide +kernel
theorem dC_findLive_67 : decode mC_findLive.2.1 67 = .ok (.iload_n 1, 1) := by decide +kernel
theorem dC_findLive_68 : decode mC_findLive.2.1 68 = .ok (.ifCond .lt 44, 3) := by decide +kernel
theorem dC_findLive_71 : decode mC_findLive.2.1 71 = .ok (.aload_n 0, 1) := by decide +kernel
theorem dC_findLive_72 : decode mC_findLive.2.1 72 = .ok (.getfield 26, 3) := by decide +kernel
theorem dC_findLive_75 : decode mC_findLive.2.1 75 = .ok (.iload_n 1, 1) := by decide +kernel
theorem dC_findLive_76 : decode mC_findLive.2.1 76 = .ok (.baload, 1) := by decide +kernel
theorem dC_findLive_77 : decode mC_findLive.2.1 77 = .ok (.ifCond .eq 29, 3) := by decide +kernel
theorem dC_findLive_80 : decode mC_findLive.2.1 80 = .ok (.aload_n 0, 1) := by decide +kernel
theorem dC_findLive_81 : decode mC_findLive.2.1 81 = .ok (.aload_n 0, 1) := by decide +kernel
theorem dC_findLive_82 : decode mC_findLive.2.1 82 = .ok (.getfield 15, 3) := by decide +kernel
theorem dC_findLive_85 : decode mC_findLive.2.1 85 = .ok (.iload_n 1, 1) := by decide +kernel
theorem dC_findLive_86 : decode mC_findLive.2.1 86 = .ok (.aaload, 1) := by decide +kernel
theorem dC_findLive_87 : decode mC_findLive.2.1 87 = .ok (.getfield 132, 3) := by decide +kernel
theorem dC_findLive_90 : decode mC_findLive.2.1 90 = .ok (.invokevirtual 158, 3) := by decide +kernel
theorem dC_findLive_93 : decode mC_findLive.2.1 93 = .ok (.aload_n 0, 1) := by decide +kernel
theorem dC_findLive_94 : decode mC_findLive.2.1 94 = .ok (.aload_n 0, 1) := by decide +kernel
theorem dC_findLive_95 : decode mC_findLive.2.1 95 = .ok (.getfield 15, 3) := by decide +kernel
theorem dC_findLive_98 : decode mC_findLive.2.1 98 = .ok (.iload_n 1, 1) := by decide +kernel
theorem dC_findLive_99 : decode mC_findLive.2.1 99 = .ok (.aaload, 1) := by decide +kernel
theorem dC_findLive_100 : decode mC_findLive.2.1 100 = .ok (.getfield 135, 3) := by decide +kernel
theorem dC_findLive_103 : decode mC_findLive.2.1 103 = .ok (.invokevirtual 158, 3) := by decide +kernel
theorem dC_findLive_106 : decode mC_findLive.2.1 106 = .ok (.iinc 1 (-1), 3) := by decide +kernel
theorem dC_findLive_109 : decode mC_findLive.2.1 109 = .ok (.goto (-42), 3) := by decide +kernel
theorem dC_findLive_112 : decode mC_findLive.2.1 112 = .ok (.return_, 1) := by decide +kernel
theorem dC_makeLive_0 : decode mC_makeLive.2.1 0 = .ok (.iload_n 1, 1) := by decide +kernel
theorem dC_makeLive_1 : decode mC_makeLive.2.1 1 = .ok (.iconst (-1), 1) := by decide +kernel
theorem dC_makeLive_2 : decode mC_makeLive.2.1 2 = .ok (.if_icmp .eq 10, 3) := by decide +kernel
theorem dC_makeLive_5 : decode mC_makeLive.2.1 5 = .ok (.aload_n 0, 1) := by decide +kernel
theorem dC_makeLive_6 : decode mC_makeLive.2.1 6 = .ok (.getfield 26, 3) := by decide +kernel
theorem dC_makeLive_9 : decode mC_makeLive.2.1 9 = .ok (.iload_n 1, 1) := by decide +kernel
theorem dC_makeLive_10 : decode mC_makeLive.2.1 10 = .ok (.iconst 1, 1) := by decide +kernel
theorem dC_makeLive_11 : decode mC_makeLive.2.1 11 = .ok (.bastore, 1) := by decide +kernel
theorem dC_makeLive_12 : decode mC_makeLive.2.1 12 = .ok (.return_, 1) := by decide +kernel
theorem dC_liveValues_0 : decode mC_liveValues.2.1 0 = .ok (.iconst 0, 1) := by decide +kernel
theorem dC_liveValues_1 : decode mC_liveValues.2.1 1 = .ok (.istore_n 1, 1) := by decide +kernel
theorem dC_liveValues_2 : decode mC_liveValues.2.1 2 = .ok (.iconst 0, 1) := by decide +kernel
theorem dC_liveValues_3 : decode mC_liveValues.2.1 3 = .ok (.istore_n 2, 1) := by decide +kernel
theorem dC_liveValues_4 : decode mC_liveValues.2.1 4 = .ok (.iload_n 2, 1) := by decide +kernel
theorem dC_liveValues_5 : decode mC_liveValues.2.1 5 = .ok (.aload_n 0, 1) := by decide +kernel
theorem dC_liveValues_6 : decode mC_liveValues.2.1 6 = .ok (.getfield 40, 3) := by decide +kernel
theorem dC_liveValues_9 : decode mC_liveValues.2.1 9 = .ok (.if_icmp .ge 21, 3) := by decide +kernel
theorem dC_liveValues_12 : decode mC_liveValues.2.1 12 = .ok (.aload_n 0, 1) := by decide +kernel
theorem dC_liveValues_13 : decode mC_liveValues.2.1 13 = .ok (.getfield 26, 3) := by decide +kernel
theorem dC_liveValues_16 : decode mC_liveValues.2.1 16 = .ok (.iload_n 2, 1) := by decide +kernel
theorem dC_liveValues_17 : decode mC_liveValues.2.1 17 = .ok (.baload, 1) := by decide +kernel
theorem dC_liveValues_18 : decode mC_liveValues.2.1 18 = .ok (.ifCond .eq 6, 3) := by decide +kernel
theorem dC_liveValues_21 : decode mC_liveValues.2.1 21 = .ok (.iinc 1 1, 3) := by decide +kernel
theorem dC_liveValues_24 : decode mC_liveValues.2.1 24 = .ok (.iinc 2 1, 3) := by decide +kernel
theorem dC_liveValues_27 : decode mC_liveValues.2.1 27 = .ok (.goto (-23), 3) := by decide +kernel
theorem dC_liveValues_30 : decode mC_liveValues.2.1 30 = .ok (.iload_n 1, 1) := by decide +kernel
theorem dC_liveValues_31 : decode mC_liveValues.2.1 31 = .ok (.ireturn, 1) := by decide +kernel
theorem dC_workOfLive_0 : decode mC_workOfLive.2.1 0 = .ok (.iconst 0, 1) := by decide +kernel
theorem dC_workOfLive_1 : decode mC_workOfLive.2.1 1 = .ok (.istore_n 1, 1) := by decide +kernel
theorem dC_workOfLive_2 : decode mC_workOfLive.2.1 2 = .ok (.iconst 0, 1) := by decide +kernel
theorem dC_workOfLive_3 : decode mC_workOfLive.2.1 3 = .ok (.istore_n 2, 1) := by decide +kernel
theorem dC_workOfLive_4 : decode mC_workOfLive.2.1 4 = .ok (.iload_n 2, 1) := by decide +kernel
theorem dC_workOfLive_5 : decode mC_workOfLive.2.1 5 = .ok (.aload_n 0, 1) := by decide +kernel
theorem dC_workOfLive_6 : decode mC_workOfLive.2.1 6 = .ok (.getfield 40, 3) := by decide +kernel
theorem dC_workOfLive_9 : decode mC_workOfLive.2.1 9 = .ok (.if_icmp .ge 31, 3) := by decide +kernel
theorem dC_workOfLive_12 : decode mC_workOfLive.2.1 12 = .ok (.aload_n 0, 1) := by decide +kernel
theorem dC_workOfLive_13 : decode mC_workOfLive.2.1 13 = .ok (.getfield 26, 3) := by decide +kernel
theorem dC_workOfLive_16 : decode mC_workOfLive.2.1 16 = .ok (.iload_n 2, 1) := by decide +kernel
theorem dC_workOfLive_17 : decode mC_workOfLive.2.1 17 = .ok (.baload, 1) := by decide +kernel
theorem dC_workOfLive_18 : decode mC_workOfLive.2.1 18 = .ok (.ifCond .eq 16, 3) := by decide +kernel
theorem dC_workOfLive_21 : decode mC_workOfLive.2.1 21 = .ok (.iload_n 1, 1) := by decide +kernel
theorem dC_workOfLive_22 : decode mC_workOfLive.2.1 22 = .ok (.aload_n 0, 1) := by decide +kernel
theorem dC_workOfLive_23 : decode mC_workOfLive.2.1 23 = .ok (.aload_n 0, 1) := by decide +kernel
theorem dC_workOfLive_24 : decode mC_workOfLive.2.1 24 = .ok (.getfield 15, 3) := by decide +kernel
theorem dC_workOfLive_27 : decode mC_workOfLive.2.1 27 = .ok (.iload_n 2, 1) := by decide +kernel
theorem dC_workOfLive_28 : decode mC_workOfLive.2.1 28 = .ok (.aaload, 1) := by decide +kernel
theorem dC_workOfLive_29 : decode mC_workOfLive.2.1 29 = .ok (.invokevirtual 161, 3) := by decide +kernel
theorem dC_workOfLive_32 : decode mC_workOfLive.2.1 32 = .ok (.iadd, 1) := by decide +kernel
theorem dC_workOfLive_33 : decode mC_workOfLive.2.1 33 = .ok (.istore_n 1, 1) := by decide +kernel
theorem dC_workOfLive_34 : decode mC_workOfLive.2.1 34 = .ok (.iinc 2 1, 3) := by decide +kernel
theorem dC_workOfLive_37 : decode mC_workOfLive.2.1 37 = .ok (.goto (-33), 3) := by decide +kernel
theorem dC_workOfLive_40 : decode mC_workOfLive.2.1 40 = .ok (.iload_n 1, 1) := by decide +kernel
theorem dC_workOfLive_41 : decode mC_workOfLive.2.1 41 = .ok (.ireturn, 1) := by decide +kernel
theorem dC_workOf_0 : decode mC_workOf.2.1 0 = .ok (.aload_n 1, 1) := by decide +kernel
theorem dC_workOf_1 : decode mC_workOf.2.1 1 = .ok (.getfield 129, 3) := by decide +kernel
theorem dC_workOf_4 : decode mC_workOf.2.1 4 = .ok (.iconst 2, 1) := by decide +kernel
theorem dC_workOf_5 : decode mC_workOf.2.1 5 = .ok (.if_icmp .gt 5, 3) := by decide +kernel
theorem dC_workOf_8 : decode mC_workOf.2.1 8 = .ok (.iconst 0, 1) := by decide +kernel
theorem dC_workOf_9 : decode mC_workOf.2.1 9 = .ok (.ireturn, 1) := by decide +kernel
theorem dC_workOf_10 : decode mC_workOf.2.1 10 = .ok (.aload_n 0, 1) := by decide +kernel
theorem dC_workOf_11 : decode mC_workOf.2.1 11 = .ok (.getfield 15, 3) := by decide +kernel
theorem dC_workOf_14 : decode mC_workOf.2.1 14 = .ok (.aload_n 1, 1) := by decide +kernel
theorem dC_workOf_15 : decode mC_workOf.2.1 15 = .ok (.getfield 132, 3) := by decide +kernel
theorem dC_workOf_18 : decode mC_workOf.2.1 18 = .ok (.aaload, 1) := by decide +kernel
theorem dC_workOf_19 : decode mC_workOf.2.1 19 = .ok (.astore_n 2, 1) := by decide +kernel
theorem dC_workOf_20 : decode mC_workOf.2.1 20 = .ok (.aload_n 1, 1) := by decide +kernel
theorem dC_workOf_21 : decode mC_workOf.2.1 21 = .ok (.getfield 129, 3) := by decide +kernel
theorem dC_workOf_24 : decode mC_workOf.2.1 24 = .ok (.bipush 8, 2) := by decide +kernel
theorem dC_workOf_26 : decode mC_workOf.2.1 26 = .ok (.if_icmp .ne 18, 3) := by decide +kernel
theorem dC_workOf_29 : decode mC_workOf.2.1 29 = .ok (.aload_n 1, 1) := by decide +kernel
theorem dC_workOf_30 : decode mC_workOf.2.1 30 = .ok (.getfield 83, 3) := by decide +kernel
theorem dC_workOf_33 : decode mC_workOf.2.1 33 = .ok (.aload_n 1, 1) := by decide +kernel
theorem dC_workOf_34 : decode mC_workOf.2.1 34 = .ok (.getfield 89, 3) := by decide +kernel
theorem dC_workOf_37 : decode mC_workOf.2.1 37 = .ok (.imul, 1) := by decide +kernel
theorem dC_workOf_38 : decode mC_workOf.2.1 38 = .ok (.aload_n 2, 1) := by decide +kernel
theorem dC_workOf_39 : decode mC_workOf.2.1 39 = .ok (.getfield 89, 3) := by decide +kernel
theorem dC_workOf_42 : decode mC_workOf.2.1 42 = .ok (.imul, 1) := by decide +kernel
theorem dC_workOf_43 : decode mC_workOf.2.1 43 = .ok (.ireturn, 1) := by decide +kernel
theorem dC_workOf_44 : decode mC_workOf.2.1 44 = .ok (.aload_n 1, 1) := by decide +kernel
theorem dC_workOf_45 : decode mC_workOf.2.1 45 = .ok (.getfield 129, 3) := by decide +kernel
theorem dC_workOf_48 : decode mC_workOf.2.1 48 = .ok (.bipush 9, 2) := by decide +kernel
theorem dC_workOf_50 : decode mC_workOf.2.1 50 = .ok (.if_icmp .ne 15, 3) := by decide +kernel
theorem dC_workOf_53 : decode mC_workOf.2.1 53 = .ok (.aload_n 2, 1) := by decide +kernel
theorem dC_workOf_54 : decode mC_workOf.2.1 54 = .ok (.getfield 83, 3) := by decide +kernel
theorem dC_workOf_57 : decode mC_workOf.2.1 57 = .ok (.aload_n 2, 1) := by decide +kernel
theorem dC_workOf_58 : decode mC_workOf.2.1 58 = .ok (.getfield 89, 3) := by decide +kernel
theorem dC_workOf_61 : decode mC_workOf.2.1 61 = .ok (.imul, 1) := by decide +kernel
theorem dC_workOf_62 : decode mC_workOf.2.1 62 = .ok (.goto 12, 3) := by decide +kernel
theorem dC_workOf_65 : decode mC_workOf.2.1 65 = .ok (.aload_n 1, 1) := by decide +kernel
theorem dC_workOf_66 : decode mC_workOf.2.1 66 = .ok (.getfield 83, 3) := by decide +kernel
theorem dC_workOf_69 : decode mC_workOf.2.1 69 = .ok (.aload_n 1, 1) := by decide +kernel
theorem dC_workOf_70 : decode mC_workOf.2.1 70 = .ok (.getfield 89, 3) := by decide +kernel
theorem dC_workOf_73 : decode mC_workOf.2.1 73 = .ok (.imul, 1) := by decide +kernel
theorem dC_workOf_74 : decode mC_workOf.2.1 74 = .ok (.ireturn, 1) := by decide +kernel
theorem dC_replaceArguments_0 : decode mC_replaceArguments.2.1 0 = .ok (.aload_n 1, 1) := by decide +kernel
theorem dC_replaceArguments_1 : decode mC_replaceArguments.2.1 1 = .ok (.getfield 132, 3) := by decide +kernel
theorem dC_replaceArguments_4 : decode mC_replaceArguments.2.1 4 = .ok (.iconst (-1), 1) := by decide +kernel
theorem dC_replaceArguments_5 : decode mC_replaceArguments.2.1 5 = .ok (.if_icmp .eq 16, 3) := by decide +kernel
theorem dC_replaceArguments_8 : decode mC_replaceArguments.2.1 8 = .ok (.aload_n 1, 1) := by decide +kernel
theorem dC_replaceArguments_9 : decode mC_replaceArguments.2.1 9 = .ok (.aload_n 0, 1) := by decide +kernel
theorem dC_replaceArguments_10 : decode mC_replaceArguments.2.1 10 = .ok (.getfield 18, 3) := by decide +kernel
theorem dC_replaceArguments_13 : decode mC_replaceArguments.2.1 13 = .ok (.aload_n 1, 1) := by decide +kernel
theorem dC_replaceArguments_14 : decode mC_replaceArguments.2.1 14 = .ok (.getfield 132, 3) := by decide +kernel
theorem dC_replaceArguments_17 : decode mC_replaceArguments.2.1 17 = .ok (.iaload, 1) := by decide +kernel
theorem dC_replaceArguments_18 : decode mC_replaceArguments.2.1 18 = .ok (.putfield 132, 3) := by decide +kernel
theorem dC_replaceArguments_21 : decode mC_replaceArguments.2.1 21 = .ok (.aload_n 1, 1) := by decide +kernel
theorem dC_replaceArguments_22 : decode mC_replaceArguments.2.1 22 = .ok (.getfield 135, 3) := by decide +kernel
theorem dC_replaceArguments_25 : decode mC_replaceArguments.2.1 25 = .ok (.iconst (-1), 1) := by decide +kernel
theorem dC_replaceArguments_26 : decode mC_replaceArguments.2.1 26 = .ok (.if_icmp .eq 16, 3) := by decide +kernel
theorem dC_replaceArguments_29 : decode mC_replaceArguments.2.1 29 = .ok (.aload_n 1, 1) := by decide +kernel
theorem dC_replaceArguments_30 : decode mC_replaceArguments.2.1 30 = .ok (.aload_n 0, 1) := by decide +kernel
theorem dC_replaceArguments_31 : decode mC_replaceArguments.2.1 31 = .ok (.getfield 18, 3) := by decide +kernel
theorem dC_replaceArguments_34 : decode mC_replaceArguments.2.1 34 = .ok (.aload_n 1, 1) := by decide +kernel
theorem dC_replaceArguments_35 : decode mC_replaceArguments.2.1 35 = .ok (.getfield 135, 3) := by decide +kernel
theorem dC_replaceArguments_38 : decode mC_replaceArguments.2.1 38 = .ok (.iaload, 1) := by decide +kernel
theorem dC_replaceArguments_39 : decode mC_replaceArguments.2.1 39 = .ok (.putfield 135, 3) := by decide +kernel
theorem dC_replaceArguments_42 : decode mC_replaceArguments.2.1 42 = .ok (.aload_n 1, 1) := by decide +kernel
theorem dC_replaceArguments_43 : decode mC_replaceArguments.2.1 43 = .ok (.invokevirtual 165, 3) := by decide +kernel
theorem dC_replaceArguments_46 : decode mC_replaceArguments.2.1 46 = .ok (.ifCond .eq 32, 3) := by decide +kernel
theorem dC_replaceArguments_49 : decode mC_replaceArguments.2.1 49 = .ok (.aload_n 1, 1) := by decide +kernel
theorem dC_replaceArguments_50 : decode mC_replaceArguments.2.1 50 = .ok (.getfield 132, 3) := by decide +kernel
theorem dC_replaceArguments_53 : decode mC_replaceArguments.2.1 53 = .ok (.aload_n 1, 1) := by decide +kernel
theorem dC_replaceArguments_54 : decode mC_replaceArguments.2.1 54 = .ok (.getfield 135, 3) := by decide +kernel
theorem dC_replaceArguments_57 : decode mC_replaceArguments.2.1 57 = .ok (.if_icmp .le 21, 3) := by decide +kernel
theorem dC_replaceArguments_60 : decode mC_replaceArguments.2.1 60 = .ok (.aload_n 1, 1) := by decide +kernel
theorem dC_replaceArguments_61 : decode mC_replaceArguments.2.1 61 = .ok (.getfield 132, 3) := by decide +kernel
theorem dC_replaceArguments_64 : decode mC_replaceArguments.2.1 64 = .ok (.istore_n 2, 1) := by decide +kernel
theorem dC_replaceArguments_65 : decode mC_replaceArguments.2.1 65 = .ok (.aload_n 1, 1) := by decide +kernel
theorem dC_replaceArguments_66 : decode mC_replaceArguments.2.1 66 = .ok (.aload_n 1, 1) := by decide +kernel
theorem dC_replaceArguments_67 : decode mC_replaceArguments.2.1 67 = .ok (.getfield 135, 3) := by decide +kernel
theorem dC_replaceArguments_70 : decode mC_replaceArguments.2.1 70 = .ok (.putfield 132, 3) := by decide +kernel
theorem dC_replaceArguments_73 : decode mC_replaceArguments.2.1 73 = .ok (.aload_n 1, 1) := by decide +kernel
theorem dC_replaceArguments_74 : decode mC_replaceArguments.2.1 74 = .ok (.iload_n 2, 1) := by decide +kernel
theorem dC_replaceArguments_75 : decode mC_replaceArguments.2.1 75 = .ok (.putfield 135, 3) := by decide +kernel
theorem dC_replaceArguments_78 : decode mC_replaceArguments.2.1 78 = .ok (.return_, 1) := by decide +kernel
theorem dC_standInByRules_0 : decode mC_standInByRules.2.1 0 = .ok (.aload_n 0, 1) := by decide +kernel
theorem dC_standInByRules_1 : decode mC_standInByRules.2.1 1 = .ok (.getfield 15, 3) := by decide +kernel
theorem dC_standInByRules_4 : decode mC_standInByRules.2.1 4 = .ok (.iload_n 1, 1) := by decide +kernel
theorem dC_standInByRules_5 : decode mC_standInByRules.2.1 5 = .ok (.aaload, 1) := by decide +kernel
theorem dC_standInByRules_6 : decode mC_standInByRules.2.1 6 = .ok (.astore_n 2, 1) := by decide +kernel
theorem dC_standInByRules_7 : decode mC_standInByRules.2.1 7 = .ok (.aload_n 0, 1) := by decide +kernel
theorem dC_standInByRules_8 : decode mC_standInByRules.2.1 8 = .ok (.aload_n 2, 1) := by decide +kernel
theorem dC_standInByRules_9 : decode mC_standInByRules.2.1 9 = .ok (.invokevirtual 169, 3) := by decide +kernel
theorem dC_standInByRules_12 : decode mC_standInByRules.2.1 12 = .ok (.ifCond .eq 28, 3) := by decide +kernel
theorem dC_standInByRules_15 : decode mC_standInByRules.2.1 15 = .ok (.aload_n 0, 1) := by decide +kernel
theorem dC_standInByRules_16 : decode mC_standInByRules.2.1 16 = .ok (.getfield 37, 3) := by decide +kernel
theorem dC_standInByRules_19 : decode mC_standInByRules.2.1 19 = .ok (.iconst 1, 1) := by decide +kernel
theorem dC_standInByRules_20 : decode mC_standInByRules.2.1 20 = .ok (.dup2, 1) := by decide +kernel
theorem dC_standInByRules_21 : decode mC_standInByRules.2.1 21 = .ok (.iaload, 1) := by decide +kernel
theorem dC_standInByRules_22 : decode mC_standInByRules.2.1 22 = .ok (.iconst 1, 1) := by decide +kernel
theorem dC_standInByRules_23 : decode mC_standInByRules.2.1 23 = .ok (.iadd, 1) := by decide +kernel
theorem dC_standInByRules_24 : decode mC_standInByRules.2.1 24 = .ok (.iastore, 1) := by decide +kernel
theorem dC_standInByRules_25 : decode mC_standInByRules.2.1 25 = .ok (.aload_n 2, 1) := by decide +kernel
theorem dC_standInByRules_26 : decode mC_standInByRules.2.1 26 = .ok (.aload_n 0, 1) := by decide +kernel
theorem dC_standInByRules_27 : decode mC_standInByRules.2.1 27 = .ok (.aload_n 2, 1) := by decide +kernel
theorem dC_standInByRules_28 : decode mC_standInByRules.2.1 28 = .ok (.invokevirtual 172, 3) := by decide +kernel
theorem dC_standInByRules_31 : decode mC_standInByRules.2.1 31 = .ok (.invokevirtual 175, 3) := by decide +kernel
theorem dC_standInByRules_34 : decode mC_standInByRules.2.1 34 = .ok (.aload_n 0, 1) := by decide +kernel
theorem dC_standInByRules_35 : decode mC_standInByRules.2.1 35 = .ok (.iload_n 1, 1) := by decide +kernel
theorem dC_standInByRules_36 : decode mC_standInByRules.2.1 36 = .ok (.invokevirtual 178, 3) := by decide +kernel
theorem dC_standInByRules_39 : decode mC_standInByRules.2.1 39 = .ok (.ireturn, 1) := by decide +kernel
theorem dC_standInByRules_40 : decode mC_standInByRules.2.1 40 = .ok (.aload_n 0, 1) := by decide +kernel
theorem dC_standInByRules_41 : decode mC_standInByRules.2.1 41 = .ok (.aload_n 2, 1) := by decide +kernel
theorem dC_standInByRules_42 : decode mC_standInByRules.2.1 42 = .ok (.invokevirtual 181, 3) := by decide +kernel
theorem dC_standInByRules_45 : decode mC_standInByRules.2.1 45 = .ok (.istore_n 3, 1) := by decide +kernel
theorem dC_standInByRules_46 : decode mC_standInByRules.2.1 46 = .ok (.iload_n 3, 1) := by decide +kernel
theorem dC_standInByRules_47 : decode mC_standInByRules.2.1 47 = .ok (.iconst (-1), 1) := by decide +kernel
theorem dC_standInByRules_48 : decode mC_standInByRules.2.1 48 = .ok (.if_icmp .eq 15, 3) := by decide +kernel
theorem dC_standInByRules_51 : decode mC_standInByRules.2.1 51 = .ok (.aload_n 0, 1) := by decide +kernel
theorem dC_standInByRules_52 : decode mC_standInByRules.2.1 52 = .ok (.getfield 37, 3) := by decide +kernel
theorem dC_standInByRules_55 : decode mC_standInByRules.2.1 55 = .ok (.iconst 2, 1) := by decide +kernel
theorem dC_standInByRules_56 : decode mC_standInByRules.2.1 56 = .ok (.dup2, 1) := by decide +kernel
theorem dC_standInByRules_57 : decode mC_standInByRules.2.1 57 = .ok (.iaload, 1) := by decide +kernel
theorem dC_standInByRules_58 : decode mC_standInByRules.2.1 58 = .ok (.iconst 1, 1) := by decide +kernel
theorem dC_standInByRules_59 : decode mC_standInByRules.2.1 59 = .ok (.iadd, 1) := by decide +kernel
theorem dC_standInByRules_60 : decode mC_standInByRules.2.1 60 = .ok (.iastore, 1) := by decide +kernel
theorem dC_standInByRules_61 : decode mC_standInByRules.2.1 61 = .ok (.iload_n 3, 1) := by decide +kernel
theorem dC_standInByRules_62 : decode mC_standInByRules.2.1 62 = .ok (.ireturn, 1) := by decide +kernel
theorem dC_standInByRules_63 : decode mC_standInByRules.2.1 63 = .ok (.aload_n 2, 1) := by decide +kernel
theorem dC_standInByRules_64 : decode mC_standInByRules.2.1 64 = .ok (.getfield 129, 3) := by decide +kernel
theorem dC_standInByRules_67 : decode mC_standInByRules.2.1 67 = .ok (.iconst 4, 1) := by decide +kernel
theorem dC_standInByRules_68 : decode mC_standInByRules.2.1 68 = .ok (.if_icmp .ne 48, 3) := by decide +kernel
theorem dC_standInByRules_71 : decode mC_standInByRules.2.1 71 = .ok (.aload_n 0, 1) := by decide +kernel
theorem dC_standInByRules_72 : decode mC_standInByRules.2.1 72 = .ok (.aload_n 2, 1) := by decide +kernel
theorem dC_standInByRules_73 : decode mC_standInByRules.2.1 73 = .ok (.getfield 132, 3) := by decide +kernel
theorem dC_standInByRules_76 : decode mC_standInByRules.2.1 76 = .ok (.iconst 0, 1) := by decide +kernel
theorem dC_standInByRules_77 : decode mC_standInByRules.2.1 77 = .ok (.invokevirtual 184, 3) := by decide +kernel
theorem dC_standInByRules_80 : decode mC_standInByRules.2.1 80 = .ok (.ifCond .ne 15, 3) := by decide +kernel
theorem dC_standInByRules_83 : decode mC_standInByRules.2.1 83 = .ok (.aload_n 0, 1) := by decide +kernel
theorem dC_standInByRules_84 : decode mC_standInByRules.2.1 84 = .ok (.aload_n 2, 1) := by decide +kernel
theorem dC_standInByRules_85 : decode mC_standInByRules.2.1 85 = .ok (.getfield 135, 3) := by decide +kernel
theorem dC_standInByRules_88 : decode mC_standInByRules.2.1 88 = .ok (.iconst 0, 1) := by decide +kernel
theorem dC_standInByRules_89 : decode mC_standInByRules.2.1 89 = .ok (.invokevirtual 184, 3) := by decide +kernel
theorem dC_standInByRules_92 : decode mC_standInByRules.2.1 92 = .ok (.ifCond .eq 24, 3) := by decide +kernel
theorem dC_standInByRules_95 : decode mC_standInByRules.2.1 95 = .ok (.aload_n 0, 1) := by decide +kernel
theorem dC_standInByRules_96 : decode mC_standInByRules.2.1 96 = .ok (.getfield 37, 3) := by decide +kernel
theorem dC_standInByRules_99 : decode mC_standInByRules.2.1 99 = .ok (.iconst 3, 1) := by decide +kernel
theorem dC_standInByRules_100 : decode mC_standInByRules.2.1 100 = .ok (.dup2, 1) := by decide +kernel
theorem dC_standInByRules_101 : decode mC_standInByRules.2.1 101 = .ok (.iaload, 1) := by decide +kernel
theorem dC_standInByRules_102 : decode mC_standInByRules.2.1 102 = .ok (.iconst 1, 1) := by decide +kernel
theorem dC_standInByRules_103 : decode mC_standInByRules.2.1 103 = .ok (.iadd, 1) := by decide +kernel
theorem dC_standInByRules_104 : decode mC_standInByRules.2.1 104 = .ok (.iastore, 1) := by decide +kernel
theorem dC_standInByRules_105 : decode mC_standInByRules.2.1 105 = .ok (.aload_n 2, 1) := by decide +kernel
theorem dC_standInByRules_106 : decode mC_standInByRules.2.1 106 = .ok (.iconst 0, 1) := by decide +kernel
theorem dC_standInByRules_107 : decode mC_standInByRules.2.1 107 = .ok (.invokevirtual 175, 3) := by decide +kernel
theorem dC_standInByRules_110 : decode mC_standInByRules.2.1 110 = .ok (.aload_n 0, 1) := by decide +kernel
theorem dC_standInByRules_111 : decode mC_standInByRules.2.1 111 = .ok (.iload_n 1, 1) := by decide +kernel
theorem dC_standInByRules_112 : decode mC_standInByRules.2.1 112 = .ok (.invokevirtual 178, 3) := by decide +kernel
theorem dC_standInByRules_115 : decode mC_standInByRules.2.1 115 = .ok (.ireturn, 1) := by decide +kernel
theorem dC_standInByRules_116 : decode mC_standInByRules.2.1 116 = .ok (.aload_n 2, 1) := by decide +kernel
theorem dC_standInByRules_117 : decode mC_standInByRules.2.1 117 = .ok (.getfield 129, 3) := by decide +kernel
theorem dC_standInByRules_120 : decode mC_standInByRules.2.1 120 = .ok (.iconst 5, 1) := by decide +kernel
theorem dC_standInByRules_121 : decode mC_standInByRules.2.1 121 = .ok (.if_icmp .ne 29, 3) := by decide +kernel
theorem dC_standInByRules_124 : decode mC_standInByRules.2.1 124 = .ok (.aload_n 2, 1) := by decide +kernel
theorem dC_standInByRules_125 : decode mC_standInByRules.2.1 125 = .ok (.getfield 132, 3) := by decide +kernel
theorem dC_standInByRules_128 : decode mC_standInByRules.2.1 128 = .ok (.aload_n 2, 1) := by decide +kernel
theorem dC_standInByRules_129 : decode mC_standInByRules.2.1 129 = .ok (.getfield 135, 3) := by decide +kernel
theorem dC_standInByRules_132 : decode mC_standInByRules.2.1 132 = .ok (.if_icmp .ne 18, 3) := by decide +kernel
theorem dC_standInByRules_135 : decode mC_standInByRules.2.1 135 = .ok (.aload_n 0, 1) := by decide +kernel
theorem dC_standInByRules_136 : decode mC_standInByRules.2.1 136 = .ok (.getfield 37, 3) := by decide +kernel
theorem dC_standInByRules_139 : decode mC_standInByRules.2.1 139 = .ok (.iconst 4, 1) := by decide +kernel
theorem dC_standInByRules_140 : decode mC_standInByRules.2.1 140 = .ok (.dup2, 1) := by decide +kernel
theorem dC_standInByRules_141 : decode mC_standInByRules.2.1 141 = .ok (.iaload, 1) := by decide +kernel
theorem dC_standInByRules_142 : decode mC_standInByRules.2.1 142 = .ok (.iconst 1, 1) := by decide +kernel
theorem dC_standInByRules_143 : decode mC_standInByRules.2.1 143 = .ok (.iadd, 1) := by decide +kernel
theorem dC_standInByRules_144 : decode mC_standInByRules.2.1 144 = .ok (.iastore, 1) := by decide +kernel
theorem dC_standInByRules_145 : decode mC_standInByRules.2.1 145 = .ok (.aload_n 2, 1) := by decide +kernel
theorem dC_standInByRules_146 : decode mC_standInByRules.2.1 146 = .ok (.getfield 132, 3) := by decide +kernel
theorem dC_standInByRules_149 : decode mC_standInByRules.2.1 149 = .ok (.ireturn, 1) := by decide +kernel
theorem dC_standInByRules_150 : decode mC_standInByRules.2.1 150 = .ok (.aload_n 0, 1) := by decide +kernel
theorem dC_standInByRules_151 : decode mC_standInByRules.2.1 151 = .ok (.aload_n 2, 1) := by decide +kernel
theorem dC_standInByRules_152 : decode mC_standInByRules.2.1 152 = .ok (.invokevirtual 187, 3) := by decide +kernel
theorem dC_standInByRules_155 : decode mC_standInByRules.2.1 155 = .ok (.istore 4, 2) := by decide +kernel
theorem dC_standInByRules_157 : decode mC_standInByRules.2.1 157 = .ok (.iload 4, 2) := by decide +kernel
theorem dC_standInByRules_159 : decode mC_standInByRules.2.1 159 = .ok (.iconst (-1), 1) := by decide +kernel
theorem dC_standInByRules_160 : decode mC_standInByRules.2.1 160 = .ok (.if_icmp .eq 36, 3) := by decide +kernel
theorem dC_standInByRules_163 : decode mC_standInByRules.2.1 163 = .ok (.aload_n 0, 1) := by decide +kernel
theorem dC_standInByRules_164 : decode mC_standInByRules.2.1 164 = .ok (.getfield 37, 3) := by decide +kernel
theorem dC_standInByRules_167 : decode mC_standInByRules.2.1 167 = .ok (.iconst 5, 1) := by decide +kernel
theorem dC_standInByRules_168 : decode mC_standInByRules.2.1 168 = .ok (.dup2, 1) := by decide +kernel
theorem dC_standInByRules_169 : decode mC_standInByRules.2.1 169 = .ok (.iaload, 1) := by decide +kernel
theorem dC_standInByRules_170 : decode mC_standInByRules.2.1 170 = .ok (.iconst 1, 1) := by decide +kernel
theorem dC_standInByRules_171 : decode mC_standInByRules.2.1 171 = .ok (.iadd, 1) := by decide +kernel
theorem dC_standInByRules_172 : decode mC_standInByRules.2.1 172 = .ok (.iastore, 1) := by decide +kernel
theorem dC_standInByRules_173 : decode mC_standInByRules.2.1 173 = .ok (.aload_n 2, 1) := by decide +kernel
theorem dC_standInByRules_174 : decode mC_standInByRules.2.1 174 = .ok (.aload_n 0, 1) := by decide +kernel
theorem dC_standInByRules_175 : decode mC_standInByRules.2.1 175 = .ok (.getfield 15, 3) := by decide +kernel
theorem dC_standInByRules_178 : decode mC_standInByRules.2.1 178 = .ok (.iload 4, 2) := by decide +kernel
theorem dC_standInByRules_180 : decode mC_standInByRules.2.1 180 = .ok (.aaload, 1) := by decide +kernel
theorem dC_standInByRules_181 : decode mC_standInByRules.2.1 181 = .ok (.invokevirtual 147, 3) := by decide +kernel
theorem dC_standInByRules_184 : decode mC_standInByRules.2.1 184 = .ok (.ifCond .eq 6, 3) := by decide +kernel
theorem dC_standInByRules_187 : decode mC_standInByRules.2.1 187 = .ok (.iload 4, 2) := by decide +kernel
theorem dC_standInByRules_189 : decode mC_standInByRules.2.1 189 = .ok (.ireturn, 1) := by decide +kernel
theorem dC_standInByRules_190 : decode mC_standInByRules.2.1 190 = .ok (.aload_n 2, 1) := by decide +kernel
theorem dC_standInByRules_191 : decode mC_standInByRules.2.1 191 = .ok (.iload 4, 2) := by decide +kernel
theorem dC_standInByRules_193 : decode mC_standInByRules.2.1 193 = .ok (.putfield 132, 3) := by decide +kernel
theorem dC_standInByRules_196 : decode mC_standInByRules.2.1 196 = .ok (.aload_n 0, 1) := by decide +kernel
theorem dC_standInByRules_197 : decode mC_standInByRules.2.1 197 = .ok (.iload_n 1, 1) := by decide +kernel
theorem dC_standInByRules_198 : decode mC_standInByRules.2.1 198 = .ok (.invokevirtual 178, 3) := by decide +kernel
theorem dC_standInByRules_201 : decode mC_standInByRules.2.1 201 = .ok (.ireturn, 1) := by decide +kernel
theorem dC_isSplat_0 : decode mC_isSplat.2.1 0 = .ok (.aload_n 0, 1) := by decide +kernel
theorem dC_isSplat_1 : decode mC_isSplat.2.1 1 = .ok (.getfield 15, 3) := by decide +kernel
theorem dC_isSplat_4 : decode mC_isSplat.2.1 4 = .ok (.iload_n 1, 1) := by decide +kernel
theorem dC_isSplat_5 : decode mC_isSplat.2.1 5 = .ok (.aaload, 1) := by decide +kernel
theorem dC_isSplat_6 : decode mC_isSplat.2.1 6 = .ok (.iload_n 2, 1) := by decide +kernel
theorem dC_isSplat_7 : decode mC_isSplat.2.1 7 = .ok (.invokevirtual 190, 3) := by decide +kernel
theorem dC_isSplat_10 : decode mC_isSplat.2.1 10 = .ok (.ireturn, 1) := by decide +kernel
theorem dC_hasOnlySplats_0 : decode mC_hasOnlySplats.2.1 0 = .ok (.aload_n 1, 1) := by decide +kernel
theorem dC_hasOnlySplats_1 : decode mC_hasOnlySplats.2.1 1 = .ok (.getfield 132, 3) := by decide +kernel
theorem dC_hasOnlySplats_4 : decode mC_hasOnlySplats.2.1 4 = .ok (.iconst (-1), 1) := by decide +kernel
theorem dC_hasOnlySplats_5 : decode mC_hasOnlySplats.2.1 5 = .ok (.if_icmp .eq 19, 3) := by decide +kernel
theorem dC_hasOnlySplats_8 : decode mC_hasOnlySplats.2.1 8 = .ok (.aload_n 0, 1) := by decide +kernel
theorem dC_hasOnlySplats_9 : decode mC_hasOnlySplats.2.1 9 = .ok (.getfield 15, 3) := by decide +kernel
theorem dC_hasOnlySplats_12 : decode mC_hasOnlySplats.2.1 12 = .ok (.aload_n 1, 1) := by decide +kernel
theorem dC_hasOnlySplats_13 : decode mC_hasOnlySplats.2.1 13 = .ok (.getfield 132, 3) := by decide +kernel
theorem dC_hasOnlySplats_16 : decode mC_hasOnlySplats.2.1 16 = .ok (.aaload, 1) := by decide +kernel
theorem dC_hasOnlySplats_17 : decode mC_hasOnlySplats.2.1 17 = .ok (.getfield 129, 3) := by decide +kernel
theorem dC_hasOnlySplats_20 : decode mC_hasOnlySplats.2.1 20 = .ok (.iconst 1, 1) := by decide +kernel
theorem dC_hasOnlySplats_21 : decode mC_hasOnlySplats.2.1 21 = .ok (.if_icmp .eq 5, 3) := by decide +kernel
theorem dC_hasOnlySplats_24 : decode mC_hasOnlySplats.2.1 24 = .ok (.iconst 0, 1) := by decide +kernel
theorem dC_hasOnlySplats_25 : decode mC_hasOnlySplats.2.1 25 = .ok (.ireturn, 1) := by decide +kernel
theorem dC_hasOnlySplats_26 : decode mC_hasOnlySplats.2.1 26 = .ok (.aload_n 1, 1) := by decide +kernel
theorem dC_hasOnlySplats_27 : decode mC_hasOnlySplats.2.1 27 = .ok (.getfield 135, 3) := by decide +kernel
theorem dC_hasOnlySplats_30 : decode mC_hasOnlySplats.2.1 30 = .ok (.iconst (-1), 1) := by decide +kernel
theorem dC_hasOnlySplats_31 : decode mC_hasOnlySplats.2.1 31 = .ok (.if_icmp .eq 19, 3) := by decide +kernel
theorem dC_hasOnlySplats_34 : decode mC_hasOnlySplats.2.1 34 = .ok (.aload_n 0, 1) := by decide +kernel
theorem dC_hasOnlySplats_35 : decode mC_hasOnlySplats.2.1 35 = .ok (.getfield 15, 3) := by decide +kernel
theorem dC_hasOnlySplats_38 : decode mC_hasOnlySplats.2.1 38 = .ok (.aload_n 1, 1) := by decide +kernel
theorem dC_hasOnlySplats_39 : decode mC_hasOnlySplats.2.1 39 = .ok (.getfield 135, 3) := by decide +kernel
theorem dC_hasOnlySplats_42 : decode mC_hasOnlySplats.2.1 42 = .ok (.aaload, 1) := by decide +kernel
theorem dC_hasOnlySplats_43 : decode mC_hasOnlySplats.2.1 43 = .ok (.getfield 129, 3) := by decide +kernel
theorem dC_hasOnlySplats_46 : decode mC_hasOnlySplats.2.1 46 = .ok (.iconst 1, 1) := by decide +kernel
theorem dC_hasOnlySplats_47 : decode mC_hasOnlySplats.2.1 47 = .ok (.if_icmp .ne 7, 3) := by decide +kernel
theorem dC_hasOnlySplats_50 : decode mC_hasOnlySplats.2.1 50 = .ok (.iconst 1, 1) := by decide +kernel
theorem dC_hasOnlySplats_51 : decode mC_hasOnlySplats.2.1 51 = .ok (.goto 4, 3) := by decide +kernel
theorem dC_hasOnlySplats_54 : decode mC_hasOnlySplats.2.1 54 = .ok (.iconst 0, 1) := by decide +kernel
theorem dC_hasOnlySplats_55 : decode mC_hasOnlySplats.2.1 55 = .ok (.ireturn, 1) := by decide +kernel
theorem dC_foldedCell_0 : decode mC_foldedCell.2.1 0 = .ok (.aload_n 0, 1) := by decide +kernel
theorem dC_foldedCell_1 : decode mC_foldedCell.2.1 1 = .ok (.getfield 15, 3) := by decide +kernel
theorem dC_foldedCell_4 : decode mC_foldedCell.2.1 4 = .ok (.aload_n 1, 1) := by decide +kernel
theorem dC_foldedCell_5 : decode mC_foldedCell.2.1 5 = .ok (.getfield 132, 3) := by decide +kernel
theorem dC_foldedCell_8 : decode mC_foldedCell.2.1 8 = .ok (.aaload, 1) := by decide +kernel
theorem dC_foldedCell_9 : decode mC_foldedCell.2.1 9 = .ok (.astore_n 2, 1) := by decide +kernel
theorem dC_foldedCell_10 : decode mC_foldedCell.2.1 10 = .ok (.aload_n 2, 1) := by decide +kernel
theorem dC_foldedCell_11 : decode mC_foldedCell.2.1 11 = .ok (.getfield 138, 3) := by decide +kernel
theorem dC_foldedCell_14 : decode mC_foldedCell.2.1 14 = .ok (.istore_n 3, 1) := by decide +kernel
theorem dC_foldedCell_15 : decode mC_foldedCell.2.1 15 = .ok (.aload_n 1, 1) := by decide +kernel
theorem dC_foldedCell_16 : decode mC_foldedCell.2.1 16 = .ok (.getfield 135, 3) := by decide +kernel
theorem dC_foldedCell_19 : decode mC_foldedCell.2.1 19 = .ok (.iconst (-1), 1) := by decide +kernel
theorem dC_foldedCell_20 : decode mC_foldedCell.2.1 20 = .ok (.if_icmp .ne 7, 3) := by decide +kernel
theorem dC_foldedCell_23 : decode mC_foldedCell.2.1 23 = .ok (.iconst 0, 1) := by decide +kernel
theorem dC_foldedCell_24 : decode mC_foldedCell.2.1 24 = .ok (.goto 15, 3) := by decide +kernel
theorem dC_foldedCell_27 : decode mC_foldedCell.2.1 27 = .ok (.aload_n 0, 1) := by decide +kernel
theorem dC_foldedCell_28 : decode mC_foldedCell.2.1 28 = .ok (.getfield 15, 3) := by decide +kernel
theorem dC_foldedCell_31 : decode mC_foldedCell.2.1 31 = .ok (.aload_n 1, 1) := by decide +kernel
theorem dC_foldedCell_32 : decode mC_foldedCell.2.1 32 = .ok (.getfield 135, 3) := by decide +kernel
theorem dC_foldedCell_35 : decode mC_foldedCell.2.1 35 = .ok (.aaload, 1) := by decide +kernel
theorem dC_foldedCell_36 : decode mC_foldedCell.2.1 36 = .ok (.getfield 138, 3) := by decide +kernel
theorem dC_foldedCell_39 : decode mC_foldedCell.2.1 39 = .ok (.istore 4, 2) := by decide +kernel
theorem dC_foldedCell_41 : decode mC_foldedCell.2.1 41 = .ok (.aload_n 1, 1) := by decide +kernel
theorem dC_foldedCell_42 : decode mC_foldedCell.2.1 42 = .ok (.getfield 129, 3) := by decide +kernel
theorem dC_foldedCell_45 : decode mC_foldedCell.2.1 45 = .ok (.tableswitch 94 3 9 #[43, 48, 53, 60, 94, 63, 73], 43) := by decide +kernel
theorem dC_foldedCell_88 : decode mC_foldedCell.2.1 88 = .ok (.iload_n 3, 1) := by decide +kernel
theorem dC_foldedCell_89 : decode mC_foldedCell.2.1 89 = .ok (.iload 4, 2) := by decide +kernel
theorem dC_foldedCell_91 : decode mC_foldedCell.2.1 91 = .ok (.iadd, 1) := by decide +kernel
theorem dC_foldedCell_92 : decode mC_foldedCell.2.1 92 = .ok (.ireturn, 1) := by decide +kernel
theorem dC_foldedCell_93 : decode mC_foldedCell.2.1 93 = .ok (.iload_n 3, 1) := by decide +kernel
theorem dC_foldedCell_94 : decode mC_foldedCell.2.1 94 = .ok (.iload 4, 2) := by decide +kernel
theorem dC_foldedCell_96 : decode mC_foldedCell.2.1 96 = .ok (.imul, 1) := by decide +kernel
theorem dC_foldedCell_97 : decode mC_foldedCell.2.1 97 = .ok (.ireturn, 1) := by decide +kernel
theorem dC_foldedCell_98 : decode mC_foldedCell.2.1 98 = .ok (.iload_n 3, 1) := by decide +kernel
theorem dC_foldedCell_99 : decode mC_foldedCell.2.1 99 = .ok (.iload 4, 2) := by decide +kernel
theorem dC_foldedCell_101 : decode mC_foldedCell.2.1 101 = .ok (.invokestatic 193, 3) := by decide +kernel
theorem dC_foldedCell_104 : decode mC_foldedCell.2.1 104 = .ok (.ireturn, 1) := by decide +kernel
theorem dC_foldedCell_105 : decode mC_foldedCell.2.1 105 = .ok (.iload_n 3, 1) := by decide +kernel
theorem dC_foldedCell_106 : decode mC_foldedCell.2.1 106 = .ok (.ineg, 1) := by decide +kernel
theorem dC_foldedCell_107 : decode mC_foldedCell.2.1 107 = .ok (.ireturn, 1) := by decide +kernel
theorem dC_foldedCell_108 : decode mC_foldedCell.2.1 108 = .ok (.iload_n 3, 1) := by decide +kernel
theorem dC_foldedCell_109 : decode mC_foldedCell.2.1 109 = .ok (.iload 4, 2) := by decide +kernel
theorem dC_foldedCell_111 : decode mC_foldedCell.2.1 111 = .ok (.imul, 1) := by decide +kernel
theorem dC_foldedCell_112 : decode mC_foldedCell.2.1 112 = .ok (.aload_n 2, 1) := by decide +kernel
theorem dC_foldedCell_113 : decode mC_foldedCell.2.1 113 = .ok (.getfield 89, 3) := by decide +kernel
theorem dC_foldedCell_116 : decode mC_foldedCell.2.1 116 = .ok (.imul, 1) := by decide +kernel
theorem dC_foldedCell_117 : decode mC_foldedCell.2.1 117 = .ok (.ireturn, 1) := by decide +kernel
theorem dC_foldedCell_118 : decode mC_foldedCell.2.1 118 = .ok (.iload_n 3, 1) := by decide +kernel
theorem dC_foldedCell_119 : decode mC_foldedCell.2.1 119 = .ok (.aload_n 1, 1) := by decide +kernel
theorem dC_foldedCell_120 : decode mC_foldedCell.2.1 120 = .ok (.getfield 138, 3) := by decide +kernel
theorem dC_foldedCell_123 : decode mC_foldedCell.2.1 123 = .ok (.ifCond .ne 10, 3) := by decide +kernel
theorem dC_foldedCell_126 : decode mC_foldedCell.2.1 126 = .ok (.aload_n 2, 1) := by decide +kernel
theorem dC_foldedCell_127 : decode mC_foldedCell.2.1 127 = .ok (.getfield 83, 3) := by decide +kernel
theorem dC_foldedCell_130 : decode mC_foldedCell.2.1 130 = .ok (.goto 7, 3) := by decide +kernel
theorem dC_foldedCell_133 : decode mC_foldedCell.2.1 133 = .ok (.aload_n 2, 1) := by decide +kernel
theorem dC_foldedCell_134 : decode mC_foldedCell.2.1 134 = .ok (.getfield 89, 3) := by decide +kernel
theorem dC_foldedCell_137 : decode mC_foldedCell.2.1 137 = .ok (.imul, 1) := by decide +kernel
theorem dC_foldedCell_138 : decode mC_foldedCell.2.1 138 = .ok (.ireturn, 1) := by decide +kernel
theorem dC_foldedCell_139 : decode mC_foldedCell.2.1 139 = .ok (.iload_n 3, 1) := by decide +kernel
theorem dC_foldedCell_140 : decode mC_foldedCell.2.1 140 = .ok (.ireturn, 1) := by decide +kernel
theorem dC_neutralOther_0 : decode mC_neutralOther.2.1 0 = .ok (.aload_n 1, 1) := by decide +kernel
theorem dC_neutralOther_1 : decode mC_neutralOther.2.1 1 = .ok (.invokevirtual 198, 3) := by decide +kernel
theorem dC_neutralOther_4 : decode mC_neutralOther.2.1 4 = .ok (.ifCond .eq 28, 3) := by decide +kernel
theorem dC_neutralOther_7 : decode mC_neutralOther.2.1 7 = .ok (.aload_n 1, 1) := by decide +kernel
theorem dC_neutralOther_8 : decode mC_neutralOther.2.1 8 = .ok (.aload_n 0, 1) := by decide +kernel
theorem dC_neutralOther_9 : decode mC_neutralOther.2.1 9 = .ok (.getfield 15, 3) := by decide +kernel
theorem dC_neutralOther_12 : decode mC_neutralOther.2.1 12 = .ok (.aload_n 1, 1) := by decide +kernel
theorem dC_neutralOther_13 : decode mC_neutralOther.2.1 13 = .ok (.getfield 132, 3) := by decide +kernel
theorem dC_neutralOther_16 : decode mC_neutralOther.2.1 16 = .ok (.aaload, 1) := by decide +kernel
theorem dC_neutralOther_17 : decode mC_neutralOther.2.1 17 = .ok (.invokevirtual 147, 3) := by decide +kernel
theorem dC_neutralOther_20 : decode mC_neutralOther.2.1 20 = .ok (.ifCond .eq 10, 3) := by decide +kernel
theorem dC_neutralOther_23 : decode mC_neutralOther.2.1 23 = .ok (.aload_n 1, 1) := by decide +kernel
theorem dC_neutralOther_24 : decode mC_neutralOther.2.1 24 = .ok (.getfield 132, 3) := by decide +kernel
theorem dC_neutralOther_27 : decode mC_neutralOther.2.1 27 = .ok (.goto 4, 3) := by decide +kernel
theorem dC_neutralOther_30 : decode mC_neutralOther.2.1 30 = .ok (.iconst (-1), 1) := by decide +kernel
theorem dC_neutralOther_31 : decode mC_neutralOther.2.1 31 = .ok (.ireturn, 1) := by decide +kernel
theorem dC_neutralOther_32 : decode mC_neutralOther.2.1 32 = .ok (.aload_n 1, 1) := by decide +kernel
theorem dC_neutralOther_33 : decode mC_neutralOther.2.1 33 = .ok (.getfield 129, 3) := by decide +kernel
theorem dC_neutralOther_36 : decode mC_neutralOther.2.1 36 = .ok (.iconst 3, 1) := by decide +kernel
theorem dC_neutralOther_37 : decode mC_neutralOther.2.1 37 = .ok (.if_icmp .eq 13, 3) := by decide +kernel
theorem dC_neutralOther_40 : decode mC_neutralOther.2.1 40 = .ok (.aload_n 1, 1) := by decide +kernel
theorem dC_neutralOther_41 : decode mC_neutralOther.2.1 41 = .ok (.getfield 129, 3) := by decide +kernel
theorem dC_neutralOther_44 : decode mC_neutralOther.2.1 44 = .ok (.iconst 4, 1) := by decide +kernel
theorem dC_neutralOther_45 : decode mC_neutralOther.2.1 45 = .ok (.if_icmp .eq 5, 3) := by decide +kernel
theorem dC_neutralOther_48 : decode mC_neutralOther.2.1 48 = .ok (.iconst (-1), 1) := by decide +kernel
theorem dC_neutralOther_49 : decode mC_neutralOther.2.1 49 = .ok (.ireturn, 1) := by decide +kernel
theorem dC_neutralOther_50 : decode mC_neutralOther.2.1 50 = .ok (.aload_n 1, 1) := by decide +kernel
theorem dC_neutralOther_51 : decode mC_neutralOther.2.1 51 = .ok (.getfield 129, 3) := by decide +kernel
theorem dC_neutralOther_54 : decode mC_neutralOther.2.1 54 = .ok (.iconst 3, 1) := by decide +kernel
theorem dC_neutralOther_55 : decode mC_neutralOther.2.1 55 = .ok (.if_icmp .ne 7, 3) := by decide +kernel
theorem dC_neutralOther_58 : decode mC_neutralOther.2.1 58 = .ok (.iconst 0, 1) := by decide +kernel
theorem dC_neutralOther_59 : decode mC_neutralOther.2.1 59 = .ok (.goto 4, 3) := by decide +kernel
theorem dC_neutralOther_62 : decode mC_neutralOther.2.1 62 = .ok (.iconst 1, 1) := by decide +kernel
theorem dC_neutralOther_63 : decode mC_neutralOther.2.1 63 = .ok (.istore_n 2, 1) := by decide +kernel
theorem dC_neutralOther_64 : decode mC_neutralOther.2.1 64 = .ok (.aload_n 0, 1) := by decide +kernel
theorem dC_neutralOther_65 : decode mC_neutralOther.2.1 65 = .ok (.aload_n 1, 1) := by decide +kernel
theorem dC_neutralOther_66 : decode mC_neutralOther.2.1 66 = .ok (.getfield 132, 3) := by decide +kernel
theorem dC_neutralOther_69 : decode mC_neutralOther.2.1 69 = .ok (.iload_n 2, 1) := by decide +kernel
theorem dC_neutralOther_70 : decode mC_neutralOther.2.1 70 = .ok (.invokevirtual 184, 3) := by decide +kernel
theorem dC_neutralOther_73 : decode mC_neutralOther.2.1 73 = .ok (.ifCond .eq 8, 3) := by decide +kernel
theorem dC_neutralOther_76 : decode mC_neutralOther.2.1 76 = .ok (.aload_n 1, 1) := by decide +kernel
theorem dC_neutralOther_77 : decode mC_neutralOther.2.1 77 = .ok (.getfield 135, 3) := by decide +kernel
theorem dC_neutralOther_80 : decode mC_neutralOther.2.1 80 = .ok (.ireturn, 1) := by decide +kernel
theorem dC_neutralOther_81 : decode mC_neutralOther.2.1 81 = .ok (.aload_n 0, 1) := by decide +kernel
theorem dC_neutralOther_82 : decode mC_neutralOther.2.1 82 = .ok (.aload_n 1, 1) := by decide +kernel
theorem dC_neutralOther_83 : decode mC_neutralOther.2.1 83 = .ok (.getfield 135, 3) := by decide +kernel
theorem dC_neutralOther_86 : decode mC_neutralOther.2.1 86 = .ok (.iload_n 2, 1) := by decide +kernel
theorem dC_neutralOther_87 : decode mC_neutralOther.2.1 87 = .ok (.invokevirtual 184, 3) := by decide +kernel
theorem dC_neutralOther_90 : decode mC_neutralOther.2.1 90 = .ok (.ifCond .eq 10, 3) := by decide +kernel
theorem dC_neutralOther_93 : decode mC_neutralOther.2.1 93 = .ok (.aload_n 1, 1) := by decide +kernel
theorem dC_neutralOther_94 : decode mC_neutralOther.2.1 94 = .ok (.getfield 132, 3) := by decide +kernel
theorem dC_neutralOther_97 : decode mC_neutralOther.2.1 97 = .ok (.goto 4, 3) := by decide +kernel
theorem dC_neutralOther_100 : decode mC_neutralOther.2.1 100 = .ok (.iconst (-1), 1) := by decide +kernel
theorem dC_neutralOther_101 : decode mC_neutralOther.2.1 101 = .ok (.ireturn, 1) := by decide +kernel
theorem dC_twiceInner_0 : decode mC_twiceInner.2.1 0 = .ok (.aload_n 1, 1) := by decide +kernel
theorem dC_twiceInner_1 : decode mC_twiceInner.2.1 1 = .ok (.getfield 129, 3) := by decide +kernel
theorem dC_twiceInner_4 : decode mC_twiceInner.2.1 4 = .ok (.bipush 6, 2) := by decide +kernel
theorem dC_twiceInner_6 : decode mC_twiceInner.2.1 6 = .ok (.if_icmp .eq 23, 3) := by decide +kernel
theorem dC_twiceInner_9 : decode mC_twiceInner.2.1 9 = .ok (.aload_n 1, 1) := by decide +kernel
theorem dC_twiceInner_10 : decode mC_twiceInner.2.1 10 = .ok (.getfield 129, 3) := by decide +kernel
theorem dC_twiceInner_13 : decode mC_twiceInner.2.1 13 = .ok (.bipush 7, 2) := by decide +kernel
theorem dC_twiceInner_15 : decode mC_twiceInner.2.1 15 = .ok (.if_icmp .eq 14, 3) := by decide +kernel
theorem dC_twiceInner_18 : decode mC_twiceInner.2.1 18 = .ok (.aload_n 1, 1) := by decide +kernel
theorem dC_twiceInner_19 : decode mC_twiceInner.2.1 19 = .ok (.getfield 129, 3) := by decide +kernel
theorem dC_twiceInner_22 : decode mC_twiceInner.2.1 22 = .ok (.bipush 11, 2) := by decide +kernel
theorem dC_twiceInner_24 : decode mC_twiceInner.2.1 24 = .ok (.if_icmp .eq 5, 3) := by decide +kernel
theorem dC_twiceInner_27 : decode mC_twiceInner.2.1 27 = .ok (.iconst (-1), 1) := by decide +kernel
theorem dC_twiceInner_28 : decode mC_twiceInner.2.1 28 = .ok (.ireturn, 1) := by decide +kernel
theorem dC_twiceInner_29 : decode mC_twiceInner.2.1 29 = .ok (.aload_n 0, 1) := by decide +kernel
theorem dC_twiceInner_30 : decode mC_twiceInner.2.1 30 = .ok (.getfield 15, 3) := by decide +kernel
theorem dC_twiceInner_33 : decode mC_twiceInner.2.1 33 = .ok (.aload_n 1, 1) := by decide +kernel
theorem dC_twiceInner_34 : decode mC_twiceInner.2.1 34 = .ok (.getfield 132, 3) := by decide +kernel
theorem dC_twiceInner_37 : decode mC_twiceInner.2.1 37 = .ok (.aaload, 1) := by decide +kernel
theorem dC_twiceInner_38 : decode mC_twiceInner.2.1 38 = .ok (.astore_n 2, 1) := by decide +kernel
theorem dC_twiceInner_39 : decode mC_twiceInner.2.1 39 = .ok (.aload_n 2, 1) := by decide +kernel
theorem dC_twiceInner_40 : decode mC_twiceInner.2.1 40 = .ok (.getfield 129, 3) := by decide +kernel
theorem dC_twiceInner_43 : decode mC_twiceInner.2.1 43 = .ok (.aload_n 1, 1) := by decide +kernel
theorem dC_twiceInner_44 : decode mC_twiceInner.2.1 44 = .ok (.getfield 129, 3) := by decide +kernel
theorem dC_twiceInner_47 : decode mC_twiceInner.2.1 47 = .ok (.if_icmp .ne 10, 3) := by decide +kernel
theorem dC_twiceInner_50 : decode mC_twiceInner.2.1 50 = .ok (.aload_n 2, 1) := by decide +kernel
theorem dC_twiceInner_51 : decode mC_twiceInner.2.1 51 = .ok (.getfield 132, 3) := by decide +kernel
theorem dC_twiceInner_54 : decode mC_twiceInner.2.1 54 = .ok (.goto 4, 3) := by decide +kernel
theorem dC_twiceInner_57 : decode mC_twiceInner.2.1 57 = .ok (.iconst (-1), 1) := by decide +kernel
theorem dC_twiceInner_58 : decode mC_twiceInner.2.1 58 = .ok (.ireturn, 1) := by decide +kernel
theorem dC_alikeOrItself_0 : decode mC_alikeOrItself.2.1 0 = .ok (.iconst 0, 1) := by decide +kernel
theorem dC_alikeOrItself_1 : decode mC_alikeOrItself.2.1 1 = .ok (.istore_n 2, 1) := by decide +kernel
theorem dC_alikeOrItself_2 : decode mC_alikeOrItself.2.1 2 = .ok (.iload_n 2, 1) := by decide +kernel
theorem dC_alikeOrItself_3 : decode mC_alikeOrItself.2.1 3 = .ok (.iload_n 1, 1) := by decide +kernel
theorem dC_alikeOrItself_4 : decode mC_alikeOrItself.2.1 4 = .ok (.if_icmp .ge 50, 3) := by decide +kernel
theorem dC_alikeOrItself_7 : decode mC_alikeOrItself.2.1 7 = .ok (.aload_n 0, 1) := by decide +kernel
theorem dC_alikeOrItself_8 : decode mC_alikeOrItself.2.1 8 = .ok (.getfield 18, 3) := by decide +kernel
theorem dC_alikeOrItself_11 : decode mC_alikeOrItself.2.1 11 = .ok (.iload_n 2, 1) := by decide +kernel
theorem dC_alikeOrItself_12 : decode mC_alikeOrItself.2.1 12 = .ok (.iaload, 1) := by decide +kernel
theorem dC_alikeOrItself_13 : decode mC_alikeOrItself.2.1 13 = .ok (.iload_n 2, 1) := by decide +kernel
theorem dC_alikeOrItself_14 : decode mC_alikeOrItself.2.1 14 = .ok (.if_icmp .ne 34, 3) := by decide +kernel
theorem dC_alikeOrItself_17 : decode mC_alikeOrItself.2.1 17 = .ok (.aload_n 0, 1) := by decide +kernel
theorem dC_alikeOrItself_18 : decode mC_alikeOrItself.2.1 18 = .ok (.getfield 15, 3) := by decide +kernel
theorem dC_alikeOrItself_21 : decode mC_alikeOrItself.2.1 21 = .ok (.iload_n 2, 1) := by decide +kernel
theorem dC_alikeOrItself_22 : decode mC_alikeOrItself.2.1 22 = .ok (.aaload, 1) := by decide +kernel
theorem dC_alikeOrItself_23 : decode mC_alikeOrItself.2.1 23 = .ok (.aload_n 0, 1) := by decide +kernel
theorem dC_alikeOrItself_24 : decode mC_alikeOrItself.2.1 24 = .ok (.getfield 15, 3) := by decide +kernel
theorem dC_alikeOrItself_27 : decode mC_alikeOrItself.2.1 27 = .ok (.iload_n 1, 1) := by decide +kernel
theorem dC_alikeOrItself_28 : decode mC_alikeOrItself.2.1 28 = .ok (.aaload, 1) := by decide +kernel
theorem dC_alikeOrItself_29 : decode mC_alikeOrItself.2.1 29 = .ok (.invokevirtual 201, 3) := by decide +kernel
theorem dC_alikeOrItself_32 : decode mC_alikeOrItself.2.1 32 = .ok (.ifCond .eq 16, 3) := by decide +kernel
theorem dC_alikeOrItself_35 : decode mC_alikeOrItself.2.1 35 = .ok (.aload_n 0, 1) := by decide +kernel
theorem dC_alikeOrItself_36 : decode mC_alikeOrItself.2.1 36 = .ok (.getfield 37, 3) := by decide +kernel
theorem dC_alikeOrItself_39 : decode mC_alikeOrItself.2.1 39 = .ok (.bipush 6, 2) := by decide +kernel
theorem dC_alikeOrItself_41 : decode mC_alikeOrItself.2.1 41 = .ok (.dup2, 1) := by decide +kernel
theorem dC_alikeOrItself_42 : decode mC_alikeOrItself.2.1 42 = .ok (.iaload, 1) := by decide +kernel
theorem dC_alikeOrItself_43 : decode mC_alikeOrItself.2.1 43 = .ok (.iconst 1, 1) := by decide +kernel
theorem dC_alikeOrItself_44 : decode mC_alikeOrItself.2.1 44 = .ok (.iadd, 1) := by decide +kernel
theorem dC_alikeOrItself_45 : decode mC_alikeOrItself.2.1 45 = .ok (.iastore, 1) := by decide +kernel
theorem dC_alikeOrItself_46 : decode mC_alikeOrItself.2.1 46 = .ok (.iload_n 2, 1) := by decide +kernel
theorem dC_alikeOrItself_47 : decode mC_alikeOrItself.2.1 47 = .ok (.ireturn, 1) := by decide +kernel
theorem dC_alikeOrItself_48 : decode mC_alikeOrItself.2.1 48 = .ok (.iinc 2 1, 3) := by decide +kernel
theorem dC_alikeOrItself_51 : decode mC_alikeOrItself.2.1 51 = .ok (.goto (-49), 3) := by decide +kernel
theorem dC_alikeOrItself_54 : decode mC_alikeOrItself.2.1 54 = .ok (.iload_n 1, 1) := by decide +kernel
theorem dC_alikeOrItself_55 : decode mC_alikeOrItself.2.1 55 = .ok (.ireturn, 1) := by decide +kernel
theorem dC_workOut_0 : decode mC_workOut.2.1 0 = .ok (.aload_n 0, 1) := by decide +kernel
theorem dC_workOut_1 : decode mC_workOut.2.1 1 = .ok (.getfield 15, 3) := by decide +kernel
theorem dC_workOut_4 : decode mC_workOut.2.1 4 = .ok (.iload_n 1, 1) := by decide +kernel
theorem dC_workOut_5 : decode mC_workOut.2.1 5 = .ok (.aaload, 1) := by decide +kernel
theorem dC_workOut_6 : decode mC_workOut.2.1 6 = .ok (.astore_n 2, 1) := by decide +kernel
theorem dC_workOut_7 : decode mC_workOut.2.1 7 = .ok (.iconst 0, 1) := by decide +kernel
theorem dC_workOut_8 : decode mC_workOut.2.1 8 = .ok (.istore_n 3, 1) := by decide +kernel
theorem dC_workOut_9 : decode mC_workOut.2.1 9 = .ok (.iload_n 3, 1) := by decide +kernel
theorem dC_workOut_10 : decode mC_workOut.2.1 10 = .ok (.aload_n 2, 1) := by decide +kernel
theorem dC_workOut_11 : decode mC_workOut.2.1 11 = .ok (.getfield 83, 3) := by decide +kernel
theorem dC_workOut_14 : decode mC_workOut.2.1 14 = .ok (.if_icmp .ge 51, 3) := by decide +kernel
theorem dC_workOut_17 : decode mC_workOut.2.1 17 = .ok (.iconst 0, 1) := by decide +kernel
theorem dC_workOut_18 : decode mC_workOut.2.1 18 = .ok (.istore 4, 2) := by decide +kernel
theorem dC_workOut_20 : decode mC_workOut.2.1 20 = .ok (.iload 4, 2) := by decide +kernel
theorem dC_workOut_22 : decode mC_workOut.2.1 22 = .ok (.aload_n 2, 1) := by decide +kernel
theorem dC_workOut_23 : decode mC_workOut.2.1 23 = .ok (.getfield 89, 3) := by decide +kernel
theorem dC_workOut_26 : decode mC_workOut.2.1 26 = .ok (.if_icmp .ge 33, 3) := by decide +kernel
theorem dC_workOut_29 : decode mC_workOut.2.1 29 = .ok (.aload_n 0, 1) := by decide +kernel
theorem dC_workOut_30 : decode mC_workOut.2.1 30 = .ok (.getfield 31, 3) := by decide +kernel
theorem dC_workOut_33 : decode mC_workOut.2.1 33 = .ok (.iload_n 1, 1) := by decide +kernel
theorem dC_workOut_34 : decode mC_workOut.2.1 34 = .ok (.aaload, 1) := by decide +kernel
theorem dC_workOut_35 : decode mC_workOut.2.1 35 = .ok (.iload_n 3, 1) := by decide +kernel
theorem dC_workOut_36 : decode mC_workOut.2.1 36 = .ok (.aload_n 2, 1) := by decide +kernel
theorem dC_workOut_37 : decode mC_workOut.2.1 37 = .ok (.getfield 89, 3) := by decide +kernel
theorem dC_workOut_40 : decode mC_workOut.2.1 40 = .ok (.imul, 1) := by decide +kernel
theorem dC_workOut_41 : decode mC_workOut.2.1 41 = .ok (.iload 4, 2) := by decide +kernel
theorem dC_workOut_43 : decode mC_workOut.2.1 43 = .ok (.iadd, 1) := by decide +kernel
theorem dC_workOut_44 : decode mC_workOut.2.1 44 = .ok (.aload_n 0, 1) := by decide +kernel
theorem dC_workOut_45 : decode mC_workOut.2.1 45 = .ok (.aload_n 2, 1) := by decide +kernel
theorem dC_workOut_46 : decode mC_workOut.2.1 46 = .ok (.iload_n 3, 1) := by decide +kernel
theorem dC_workOut_47 : decode mC_workOut.2.1 47 = .ok (.iload 4, 2) := by decide +kernel
theorem dC_workOut_49 : decode mC_workOut.2.1 49 = .ok (.invokevirtual 204, 3) := by decide +kernel
theorem dC_workOut_52 : decode mC_workOut.2.1 52 = .ok (.iastore, 1) := by decide +kernel
theorem dC_workOut_53 : decode mC_workOut.2.1 53 = .ok (.iinc 4 1, 3) := by decide +kernel
theorem dC_workOut_56 : decode mC_workOut.2.1 56 = .ok (.goto (-36), 3) := by decide +kernel
theorem dC_workOut_59 : decode mC_workOut.2.1 59 = .ok (.iinc 3 1, 3) := by decide +kernel
theorem dC_workOut_62 : decode mC_workOut.2.1 62 = .ok (.goto (-53), 3) := by decide +kernel
theorem dC_workOut_65 : decode mC_workOut.2.1 65 = .ok (.return_, 1) := by decide +kernel
theorem dC_workedCell_0 : decode mC_workedCell.2.1 0 = .ok (.aload_n 1, 1) := by decide +kernel
theorem dC_workedCell_1 : decode mC_workedCell.2.1 1 = .ok (.getfield 129, 3) := by decide +kernel
theorem dC_workedCell_4 : decode mC_workedCell.2.1 4 = .ok (.tableswitch 256 0 11 #[64, 80, 85, 98, 120, 142, 166, 178, 189, 197, 226, 237], 64) := by decide +kernel
theorem dC_workedCell_68 : decode mC_workedCell.2.1 68 = .ok (.aload_n 0, 1) := by decide +kernel
theorem dC_workedCell_69 : decode mC_workedCell.2.1 69 = .ok (.getfield 34, 3) := by decide +kernel
theorem dC_workedCell_72 : decode mC_workedCell.2.1 72 = .ok (.aload_n 1, 1) := by decide +kernel
theorem dC_workedCell_73 : decode mC_workedCell.2.1 73 = .ok (.getfield 138, 3) := by decide +kernel
theorem dC_workedCell_76 : decode mC_workedCell.2.1 76 = .ok (.aaload, 1) := by decide +kernel
theorem dC_workedCell_77 : decode mC_workedCell.2.1 77 = .ok (.iload_n 2, 1) := by decide +kernel
theorem dC_workedCell_78 : decode mC_workedCell.2.1 78 = .ok (.iconst 4, 1) := by decide +kernel
theorem dC_workedCell_79 : decode mC_workedCell.2.1 79 = .ok (.imul, 1) := by decide +kernel
theorem dC_workedCell_80 : decode mC_workedCell.2.1 80 = .ok (.iload_n 3, 1) := by decide +kernel
theorem dC_workedCell_81 : decode mC_workedCell.2.1 81 = .ok (.iadd, 1) := by decide +kernel
theorem dC_workedCell_82 : decode mC_workedCell.2.1 82 = .ok (.iaload, 1) := by decide +kernel
theorem dC_workedCell_83 : decode mC_workedCell.2.1 83 = .ok (.ireturn, 1) := by decide +kernel
theorem dC_workedCell_84 : decode mC_workedCell.2.1 84 = .ok (.aload_n 1, 1) := by decide +kernel
theorem dC_workedCell_85 : decode mC_workedCell.2.1 85 = .ok (.getfield 138, 3) := by decide +kernel
theorem dC_workedCell_88 : decode mC_workedCell.2.1 88 = .ok (.ireturn, 1) := by decide +kernel
theorem dC_workedCell_89 : decode mC_workedCell.2.1 89 = .ok (.aload_n 1, 1) := by decide +kernel
theorem dC_workedCell_90 : decode mC_workedCell.2.1 90 = .ok (.getfield 138, 3) := by decide +kernel
theorem dC_workedCell_93 : decode mC_workedCell.2.1 93 = .ok (.ifCond .ne 7, 3) := by decide +kernel
theorem dC_workedCell_96 : decode mC_workedCell.2.1 96 = .ok (.iload_n 2, 1) := by decide +kernel
theorem dC_workedCell_97 : decode mC_workedCell.2.1 97 = .ok (.goto 4, 3) := by decide +kernel
theorem dC_workedCell_100 : decode mC_workedCell.2.1 100 = .ok (.iload_n 3, 1) := by decide +kernel
theorem dC_workedCell_101 : decode mC_workedCell.2.1 101 = .ok (.ireturn, 1) := by decide +kernel
theorem dC_workedCell_102 : decode mC_workedCell.2.1 102 = .ok (.aload_n 0, 1) := by decide +kernel
theorem dC_workedCell_103 : decode mC_workedCell.2.1 103 = .ok (.aload_n 1, 1) := by decide +kernel
theorem dC_workedCell_104 : decode mC_workedCell.2.1 104 = .ok (.getfield 132, 3) := by decide +kernel
theorem dC_workedCell_107 : decode mC_workedCell.2.1 107 = .ok (.iload_n 2, 1) := by decide +kernel
theorem dC_workedCell_108 : decode mC_workedCell.2.1 108 = .ok (.iload_n 3, 1) := by decide +kernel
theorem dC_workedCell_109 : decode mC_workedCell.2.1 109 = .ok (.invokevirtual 125, 3) := by decide +kernel
theorem dC_workedCell_112 : decode mC_workedCell.2.1 112 = .ok (.aload_n 0, 1) := by decide +kernel
theorem dC_workedCell_113 : decode mC_workedCell.2.1 113 = .ok (.aload_n 1, 1) := by decide +kernel
theorem dC_workedCell_114 : decode mC_workedCell.2.1 114 = .ok (.getfield 135, 3) := by decide +kernel
theorem dC_workedCell_117 : decode mC_workedCell.2.1 117 = .ok (.iload_n 2, 1) := by decide +kernel
theorem dC_workedCell_118 : decode mC_workedCell.2.1 118 = .ok (.iload_n 3, 1) := by decide +kernel
theorem dC_workedCell_119 : decode mC_workedCell.2.1 119 = .ok (.invokevirtual 125, 3) := by decide +kernel
theorem dC_workedCell_122 : decode mC_workedCell.2.1 122 = .ok (.iadd, 1) := by decide +kernel
theorem dC_workedCell_123 : decode mC_workedCell.2.1 123 = .ok (.ireturn, 1) := by decide +kernel
theorem dC_workedCell_124 : decode mC_workedCell.2.1 124 = .ok (.aload_n 0, 1) := by decide +kernel
theorem dC_workedCell_125 : decode mC_workedCell.2.1 125 = .ok (.aload_n 1, 1) := by decide +kernel
theorem dC_workedCell_126 : decode mC_workedCell.2.1 126 = .ok (.getfield 132, 3) := by decide +kernel
theorem dC_workedCell_129 : decode mC_workedCell.2.1 129 = .ok (.iload_n 2, 1) := by decide +kernel
theorem dC_workedCell_130 : decode mC_workedCell.2.1 130 = .ok (.iload_n 3, 1) := by decide +kernel
theorem dC_workedCell_131 : decode mC_workedCell.2.1 131 = .ok (.invokevirtual 125, 3) := by decide +kernel
theorem dC_workedCell_134 : decode mC_workedCell.2.1 134 = .ok (.aload_n 0, 1) := by decide +kernel
theorem dC_workedCell_135 : decode mC_workedCell.2.1 135 = .ok (.aload_n 1, 1) := by decide +kernel
theorem dC_workedCell_136 : decode mC_workedCell.2.1 136 = .ok (.getfield 135, 3) := by decide +kernel
theorem dC_workedCell_139 : decode mC_workedCell.2.1 139 = .ok (.iload_n 2, 1) := by decide +kernel
theorem dC_workedCell_140 : decode mC_workedCell.2.1 140 = .ok (.iload_n 3, 1) := by decide +kernel
theorem dC_workedCell_141 : decode mC_workedCell.2.1 141 = .ok (.invokevirtual 125, 3) := by decide +kernel
theorem dC_workedCell_144 : decode mC_workedCell.2.1 144 = .ok (.imul, 1) := by decide +kernel
theorem dC_workedCell_145 : decode mC_workedCell.2.1 145 = .ok (.ireturn, 1) := by decide +kernel
theorem dC_workedCell_146 : decode mC_workedCell.2.1 146 = .ok (.aload_n 0, 1) := by decide +kernel
theorem dC_workedCell_147 : decode mC_workedCell.2.1 147 = .ok (.aload_n 1, 1) := by decide +kernel
theorem dC_workedCell_148 : decode mC_workedCell.2.1 148 = .ok (.getfield 132, 3) := by decide +kernel
theorem dC_workedCell_151 : decode mC_workedCell.2.1 151 = .ok (.iload_n 2, 1) := by decide +kernel
theorem dC_workedCell_152 : decode mC_workedCell.2.1 152 = .ok (.iload_n 3, 1) := by decide +kernel
theorem dC_workedCell_153 : decode mC_workedCell.2.1 153 = .ok (.invokevirtual 125, 3) := by decide +kernel
theorem dC_workedCell_156 : decode mC_workedCell.2.1 156 = .ok (.aload_n 0, 1) := by decide +kernel
theorem dC_workedCell_157 : decode mC_workedCell.2.1 157 = .ok (.aload_n 1, 1) := by decide +kernel
theorem dC_workedCell_158 : decode mC_workedCell.2.1 158 = .ok (.getfield 135, 3) := by decide +kernel
theorem dC_workedCell_161 : decode mC_workedCell.2.1 161 = .ok (.iload_n 2, 1) := by decide +kernel
theorem dC_workedCell_162 : decode mC_workedCell.2.1 162 = .ok (.iload_n 3, 1) := by decide +kernel
theorem dC_workedCell_163 : decode mC_workedCell.2.1 163 = .ok (.invokevirtual 125, 3) := by decide +kernel
theorem dC_workedCell_166 : decode mC_workedCell.2.1 166 = .ok (.invokestatic 193, 3) := by decide +kernel
theorem dC_workedCell_169 : decode mC_workedCell.2.1 169 = .ok (.ireturn, 1) := by decide +kernel
theorem dC_workedCell_170 : decode mC_workedCell.2.1 170 = .ok (.aload_n 0, 1) := by decide +kernel
theorem dC_workedCell_171 : decode mC_workedCell.2.1 171 = .ok (.aload_n 1, 1) := by decide +kernel
theorem dC_workedCell_172 : decode mC_workedCell.2.1 172 = .ok (.getfield 132, 3) := by decide +kernel
theorem dC_workedCell_175 : decode mC_workedCell.2.1 175 = .ok (.iload_n 2, 1) := by decide +kernel
theorem dC_workedCell_176 : decode mC_workedCell.2.1 176 = .ok (.iload_n 3, 1) := by decide +kernel
theorem dC_workedCell_177 : decode mC_workedCell.2.1 177 = .ok (.invokevirtual 125, 3) := by decide +kernel
theorem dC_workedCell_180 : decode mC_workedCell.2.1 180 = .ok (.ineg, 1) := by decide +kernel
theorem dC_workedCell_181 : decode mC_workedCell.2.1 181 = .ok (.ireturn, 1) := by decide +kernel
theorem dC_workedCell_182 : decode mC_workedCell.2.1 182 = .ok (.aload_n 0, 1) := by decide +kernel
theorem dC_workedCell_183 : decode mC_workedCell.2.1 183 = .ok (.aload_n 1, 1) := by decide +kernel
theorem dC_workedCell_184 : decode mC_workedCell.2.1 184 = .ok (.getfield 132, 3) := by decide +kernel
theorem dC_workedCell_187 : decode mC_workedCell.2.1 187 = .ok (.iload_n 3, 1) := by decide +kernel
theorem dC_workedCell_188 : decode mC_workedCell.2.1 188 = .ok (.iload_n 2, 1) := by decide +kernel
theorem dC_workedCell_189 : decode mC_workedCell.2.1 189 = .ok (.invokevirtual 125, 3) := by decide +kernel
theorem dC_workedCell_192 : decode mC_workedCell.2.1 192 = .ok (.ireturn, 1) := by decide +kernel
theorem dC_workedCell_193 : decode mC_workedCell.2.1 193 = .ok (.aload_n 0, 1) := by decide +kernel
theorem dC_workedCell_194 : decode mC_workedCell.2.1 194 = .ok (.aload_n 1, 1) := by decide +kernel
theorem dC_workedCell_195 : decode mC_workedCell.2.1 195 = .ok (.iload_n 2, 1) := by decide +kernel
theorem dC_workedCell_196 : decode mC_workedCell.2.1 196 = .ok (.iload_n 3, 1) := by decide +kernel
theorem dC_workedCell_197 : decode mC_workedCell.2.1 197 = .ok (.invokevirtual 208, 3) := by decide +kernel
theorem dC_workedCell_200 : decode mC_workedCell.2.1 200 = .ok (.ireturn, 1) := by decide +kernel
theorem dC_workedCell_201 : decode mC_workedCell.2.1 201 = .ok (.aload_n 1, 1) := by decide +kernel
theorem dC_workedCell_202 : decode mC_workedCell.2.1 202 = .ok (.getfield 138, 3) := by decide +kernel
theorem dC_workedCell_205 : decode mC_workedCell.2.1 205 = .ok (.ifCond .ne 15, 3) := by decide +kernel
theorem dC_workedCell_208 : decode mC_workedCell.2.1 208 = .ok (.aload_n 0, 1) := by decide +kernel
theorem dC_workedCell_209 : decode mC_workedCell.2.1 209 = .ok (.aload_n 1, 1) := by decide +kernel
theorem dC_workedCell_210 : decode mC_workedCell.2.1 210 = .ok (.getfield 132, 3) := by decide +kernel
theorem dC_workedCell_213 : decode mC_workedCell.2.1 213 = .ok (.iload_n 3, 1) := by decide +kernel
theorem dC_workedCell_214 : decode mC_workedCell.2.1 214 = .ok (.invokevirtual 211, 3) := by decide +kernel
theorem dC_workedCell_217 : decode mC_workedCell.2.1 217 = .ok (.goto 12, 3) := by decide +kernel
theorem dC_workedCell_220 : decode mC_workedCell.2.1 220 = .ok (.aload_n 0, 1) := by decide +kernel
theorem dC_workedCell_221 : decode mC_workedCell.2.1 221 = .ok (.aload_n 1, 1) := by decide +kernel
theorem dC_workedCell_222 : decode mC_workedCell.2.1 222 = .ok (.getfield 132, 3) := by decide +kernel
theorem dC_workedCell_225 : decode mC_workedCell.2.1 225 = .ok (.iload_n 2, 1) := by decide +kernel
theorem dC_workedCell_226 : decode mC_workedCell.2.1 226 = .ok (.invokevirtual 214, 3) := by decide +kernel
theorem dC_workedCell_229 : decode mC_workedCell.2.1 229 = .ok (.ireturn, 1) := by decide +kernel
theorem dC_workedCell_230 : decode mC_workedCell.2.1 230 = .ok (.aload_n 0, 1) := by decide +kernel
theorem dC_workedCell_231 : decode mC_workedCell.2.1 231 = .ok (.aload_n 1, 1) := by decide +kernel
theorem dC_workedCell_232 : decode mC_workedCell.2.1 232 = .ok (.getfield 132, 3) := by decide +kernel
theorem dC_workedCell_235 : decode mC_workedCell.2.1 235 = .ok (.iload_n 2, 1) := by decide +kernel
theorem dC_workedCell_236 : decode mC_workedCell.2.1 236 = .ok (.iload_n 3, 1) := by decide +kernel
theorem dC_workedCell_237 : decode mC_workedCell.2.1 237 = .ok (.invokevirtual 217, 3) := by decide +kernel
theorem dC_workedCell_240 : decode mC_workedCell.2.1 240 = .ok (.ireturn, 1) := by decide +kernel
theorem dC_workedCell_241 : decode mC_workedCell.2.1 241 = .ok (.aload_n 0, 1) := by decide +kernel
theorem dC_workedCell_242 : decode mC_workedCell.2.1 242 = .ok (.getfield 31, 3) := by decide +kernel
theorem dC_workedCell_245 : decode mC_workedCell.2.1 245 = .ok (.aload_n 1, 1) := by decide +kernel
theorem dC_workedCell_246 : decode mC_workedCell.2.1 246 = .ok (.getfield 132, 3) := by decide +kernel
theorem dC_workedCell_249 : decode mC_workedCell.2.1 249 = .ok (.aaload, 1) := by decide +kernel
theorem dC_workedCell_250 : decode mC_workedCell.2.1 250 = .ok (.iload_n 2, 1) := by decide +kernel
theorem dC_workedCell_251 : decode mC_workedCell.2.1 251 = .ok (.aload_n 1, 1) := by decide +kernel
theorem dC_workedCell_252 : decode mC_workedCell.2.1 252 = .ok (.getfield 89, 3) := by decide +kernel
theorem dC_workedCell_255 : decode mC_workedCell.2.1 255 = .ok (.imul, 1) := by decide +kernel
theorem dC_workedCell_256 : decode mC_workedCell.2.1 256 = .ok (.iload_n 3, 1) := by decide +kernel
theorem dC_workedCell_257 : decode mC_workedCell.2.1 257 = .ok (.iadd, 1) := by decide +kernel
theorem dC_workedCell_258 : decode mC_workedCell.2.1 258 = .ok (.iaload, 1) := by decide +kernel
theorem dC_workedCell_259 : decode mC_workedCell.2.1 259 = .ok (.ireturn, 1) := by decide +kernel
theorem dC_workedCell_260 : decode mC_workedCell.2.1 260 = .ok (.aload_n 0, 1) := by decide +kernel
theorem dC_workedCell_261 : decode mC_workedCell.2.1 261 = .ok (.aload_n 1, 1) := by decide +kernel
theorem dC_workedCell_262 : decode mC_workedCell.2.1 262 = .ok (.getfield 132, 3) := by decide +kernel
theorem dC_workedCell_265 : decode mC_workedCell.2.1 265 = .ok (.aload_n 1, 1) := by decide +kernel
theorem dC_workedCell_266 : decode mC_workedCell.2.1 266 = .ok (.getfield 138, 3) := by decide +kernel
theorem dC_workedCell_269 : decode mC_workedCell.2.1 269 = .ok (.iload_n 2, 1) := by decide +kernel
theorem dC_workedCell_270 : decode mC_workedCell.2.1 270 = .ok (.iadd, 1) := by decide +kernel
theorem dC_workedCell_271 : decode mC_workedCell.2.1 271 = .ok (.aload_n 1, 1) := by decide +kernel
theorem dC_workedCell_272 : decode mC_workedCell.2.1 272 = .ok (.getfield 141, 3) := by decide +kernel
theorem dC_workedCell_275 : decode mC_workedCell.2.1 275 = .ok (.iload_n 3, 1) := by decide +kernel
theorem dC_workedCell_276 : decode mC_workedCell.2.1 276 = .ok (.iadd, 1) := by decide +kernel
theorem dC_workedCell_277 : decode mC_workedCell.2.1 277 = .ok (.invokevirtual 125, 3) := by decide +kernel
theorem dC_workedCell_280 : decode mC_workedCell.2.1 280 = .ok (.ireturn, 1) := by decide +kernel
theorem dC_cellAt_0 : decode mC_cellAt.2.1 0 = .ok (.aload_n 0, 1) := by decide +kernel
theorem dC_cellAt_1 : decode mC_cellAt.2.1 1 = .ok (.getfield 31, 3) := by decide +kernel
theorem dC_cellAt_4 : decode mC_cellAt.2.1 4 = .ok (.iload_n 1, 1) := by decide +kernel
theorem dC_cellAt_5 : decode mC_cellAt.2.1 5 = .ok (.aaload, 1) := by decide +kernel
theorem dC_cellAt_6 : decode mC_cellAt.2.1 6 = .ok (.iload_n 2, 1) := by decide +kernel
theorem dC_cellAt_7 : decode mC_cellAt.2.1 7 = .ok (.aload_n 0, 1) := by decide +kernel
theorem dC_cellAt_8 : decode mC_cellAt.2.1 8 = .ok (.getfield 15, 3) := by decide +kernel
theorem dC_cellAt_11 : decode mC_cellAt.2.1 11 = .ok (.iload_n 1, 1) := by decide +kernel
theorem dC_cellAt_12 : decode mC_cellAt.2.1 12 = .ok (.aaload, 1) := by decide +kernel
theorem dC_cellAt_13 : decode mC_cellAt.2.1 13 = .ok (.getfield 89, 3) := by decide +kernel
theorem dC_cellAt_16 : decode mC_cellAt.2.1 16 = .ok (.imul, 1) := by decide +kernel
theorem dC_cellAt_17 : decode mC_cellAt.2.1 17 = .ok (.iload_n 3, 1) := by decide +kernel
theorem dC_cellAt_18 : decode mC_cellAt.2.1 18 = .ok (.iadd, 1) := by decide +kernel
theorem dC_cellAt_19 : decode mC_cellAt.2.1 19 = .ok (.iaload, 1) := by decide +kernel
theorem dC_cellAt_20 : decode mC_cellAt.2.1 20 = .ok (.ireturn, 1) := by decide +kernel
theorem dC_dotCell_0 : decode mC_dotCell.2.1 0 = .ok (.iconst 0, 1) := by decide +kernel
theorem dC_dotCell_1 : decode mC_dotCell.2.1 1 = .ok (.istore 4, 2) := by decide +kernel
theorem dC_dotCell_3 : decode mC_dotCell.2.1 3 = .ok (.iconst 0, 1) := by decide +kernel
theorem dC_dotCell_4 : decode mC_dotCell.2.1 4 = .ok (.istore 5, 2) := by decide +kernel
theorem dC_dotCell_6 : decode mC_dotCell.2.1 6 = .ok (.iload 5, 2) := by decide +kernel
theorem dC_dotCell_8 : decode mC_dotCell.2.1 8 = .ok (.aload_n 0, 1) := by decide +kernel
theorem dC_dotCell_9 : decode mC_dotCell.2.1 9 = .ok (.getfield 15, 3) := by decide +kernel
theorem dC_dotCell_12 : decode mC_dotCell.2.1 12 = .ok (.aload_n 1, 1) := by decide +kernel
theorem dC_dotCell_13 : decode mC_dotCell.2.1 13 = .ok (.getfield 132, 3) := by decide +kernel
theorem dC_dotCell_16 : decode mC_dotCell.2.1 16 = .ok (.aaload, 1) := by decide +kernel
theorem dC_dotCell_17 : decode mC_dotCell.2.1 17 = .ok (.getfield 89, 3) := by decide +kernel
theorem dC_dotCell_20 : decode mC_dotCell.2.1 20 = .ok (.if_icmp .ge 37, 3) := by decide +kernel
theorem dC_dotCell_23 : decode mC_dotCell.2.1 23 = .ok (.iload 4, 2) := by decide +kernel
theorem dC_dotCell_25 : decode mC_dotCell.2.1 25 = .ok (.aload_n 0, 1) := by decide +kernel
theorem dC_dotCell_26 : decode mC_dotCell.2.1 26 = .ok (.aload_n 1, 1) := by decide +kernel
theorem dC_dotCell_27 : decode mC_dotCell.2.1 27 = .ok (.getfield 132, 3) := by decide +kernel
theorem dC_dotCell_30 : decode mC_dotCell.2.1 30 = .ok (.iload_n 2, 1) := by decide +kernel
theorem dC_dotCell_31 : decode mC_dotCell.2.1 31 = .ok (.iload 5, 2) := by decide +kernel
theorem dC_dotCell_33 : decode mC_dotCell.2.1 33 = .ok (.invokevirtual 125, 3) := by decide +kernel
theorem dC_dotCell_36 : decode mC_dotCell.2.1 36 = .ok (.aload_n 0, 1) := by decide +kernel
theorem dC_dotCell_37 : decode mC_dotCell.2.1 37 = .ok (.aload_n 1, 1) := by decide +kernel
theorem dC_dotCell_38 : decode mC_dotCell.2.1 38 = .ok (.getfield 135, 3) := by decide +kernel
theorem dC_dotCell_41 : decode mC_dotCell.2.1 41 = .ok (.iload 5, 2) := by decide +kernel
theorem dC_dotCell_43 : decode mC_dotCell.2.1 43 = .ok (.iload_n 3, 1) := by decide +kernel
theorem dC_dotCell_44 : decode mC_dotCell.2.1 44 = .ok (.invokevirtual 125, 3) := by decide +kernel
theorem dC_dotCell_47 : decode mC_dotCell.2.1 47 = .ok (.imul, 1) := by decide +kernel
theorem dC_dotCell_48 : decode mC_dotCell.2.1 48 = .ok (.iadd, 1) := by decide +kernel
theorem dC_dotCell_49 : decode mC_dotCell.2.1 49 = .ok (.istore 4, 2) := by decide +kernel
theorem dC_dotCell_51 : decode mC_dotCell.2.1 51 = .ok (.iinc 5 1, 3) := by decide +kernel
theorem dC_dotCell_54 : decode mC_dotCell.2.1 54 = .ok (.goto (-48), 3) := by decide +kernel
theorem dC_dotCell_57 : decode mC_dotCell.2.1 57 = .ok (.iload 4, 2) := by decide +kernel
theorem dC_dotCell_59 : decode mC_dotCell.2.1 59 = .ok (.ireturn, 1) := by decide +kernel
theorem dC_sumOfColumn_0 : decode mC_sumOfColumn.2.1 0 = .ok (.iconst 0, 1) := by decide +kernel
theorem dC_sumOfColumn_1 : decode mC_sumOfColumn.2.1 1 = .ok (.istore_n 3, 1) := by decide +kernel
theorem dC_sumOfColumn_2 : decode mC_sumOfColumn.2.1 2 = .ok (.iconst 0, 1) := by decide +kernel
theorem dC_sumOfColumn_3 : decode mC_sumOfColumn.2.1 3 = .ok (.istore 4, 2) := by decide +kernel
theorem dC_sumOfColumn_5 : decode mC_sumOfColumn.2.1 5 = .ok (.iload 4, 2) := by decide +kernel
theorem dC_sumOfColumn_7 : decode mC_sumOfColumn.2.1 7 = .ok (.aload_n 0, 1) := by decide +kernel
theorem dC_sumOfColumn_8 : decode mC_sumOfColumn.2.1 8 = .ok (.getfield 15, 3) := by decide +kernel
theorem dC_sumOfColumn_11 : decode mC_sumOfColumn.2.1 11 = .ok (.iload_n 1, 1) := by decide +kernel
theorem dC_sumOfColumn_12 : decode mC_sumOfColumn.2.1 12 = .ok (.aaload, 1) := by decide +kernel
theorem dC_sumOfColumn_13 : decode mC_sumOfColumn.2.1 13 = .ok (.getfield 83, 3) := by decide +kernel
theorem dC_sumOfColumn_16 : decode mC_sumOfColumn.2.1 16 = .ok (.if_icmp .ge 20, 3) := by decide +kernel
theorem dC_sumOfColumn_19 : decode mC_sumOfColumn.2.1 19 = .ok (.iload_n 3, 1) := by decide +kernel
theorem dC_sumOfColumn_20 : decode mC_sumOfColumn.2.1 20 = .ok (.aload_n 0, 1) := by decide +kernel
theorem dC_sumOfColumn_21 : decode mC_sumOfColumn.2.1 21 = .ok (.iload_n 1, 1) := by decide +kernel
theorem dC_sumOfColumn_22 : decode mC_sumOfColumn.2.1 22 = .ok (.iload 4, 2) := by decide +kernel
theorem dC_sumOfColumn_24 : decode mC_sumOfColumn.2.1 24 = .ok (.iload_n 2, 1) := by decide +kernel
theorem dC_sumOfColumn_25 : decode mC_sumOfColumn.2.1 25 = .ok (.invokevirtual 125, 3) := by decide +kernel
theorem dC_sumOfColumn_28 : decode mC_sumOfColumn.2.1 28 = .ok (.iadd, 1) := by decide +kernel
theorem dC_sumOfColumn_29 : decode mC_sumOfColumn.2.1 29 = .ok (.istore_n 3, 1) := by decide +kernel
theorem dC_sumOfColumn_30 : decode mC_sumOfColumn.2.1 30 = .ok (.iinc 4 1, 3) := by decide +kernel
theorem dC_sumOfColumn_33 : decode mC_sumOfColumn.2.1 33 = .ok (.goto (-28), 3) := by decide +kernel
theorem dC_sumOfColumn_36 : decode mC_sumOfColumn.2.1 36 = .ok (.iload_n 3, 1) := by decide +kernel
theorem dC_sumOfColumn_37 : decode mC_sumOfColumn.2.1 37 = .ok (.ireturn, 1) := by decide +kernel
theorem dC_sumOfRow_0 : decode mC_sumOfRow.2.1 0 = .ok (.iconst 0, 1) := by decide +kernel
theorem dC_sumOfRow_1 : decode mC_sumOfRow.2.1 1 = .ok (.istore_n 3, 1) := by decide +kernel
theorem dC_sumOfRow_2 : decode mC_sumOfRow.2.1 2 = .ok (.iconst 0, 1) := by decide +kernel
theorem dC_sumOfRow_3 : decode mC_sumOfRow.2.1 3 = .ok (.istore 4, 2) := by decide +kernel
theorem dC_sumOfRow_5 : decode mC_sumOfRow.2.1 5 = .ok (.iload 4, 2) := by decide +kernel
theorem dC_sumOfRow_7 : decode mC_sumOfRow.2.1 7 = .ok (.aload_n 0, 1) := by decide +kernel
theorem dC_sumOfRow_8 : decode mC_sumOfRow.2.1 8 = .ok (.getfield 15, 3) := by decide +kernel
theorem dC_sumOfRow_11 : decode mC_sumOfRow.2.1 11 = .ok (.iload_n 1, 1) := by decide +kernel
theorem dC_sumOfRow_12 : decode mC_sumOfRow.2.1 12 = .ok (.aaload, 1) := by decide +kernel
theorem dC_sumOfRow_13 : decode mC_sumOfRow.2.1 13 = .ok (.getfield 89, 3) := by decide +kernel
theorem dC_sumOfRow_16 : decode mC_sumOfRow.2.1 16 = .ok (.if_icmp .ge 20, 3) := by decide +kernel
theorem dC_sumOfRow_19 : decode mC_sumOfRow.2.1 19 = .ok (.iload_n 3, 1) := by decide +kernel
theorem dC_sumOfRow_20 : decode mC_sumOfRow.2.1 20 = .ok (.aload_n 0, 1) := by decide +kernel
theorem dC_sumOfRow_21 : decode mC_sumOfRow.2.1 21 = .ok (.iload_n 1, 1) := by decide +kernel
theorem dC_sumOfRow_22 : decode mC_sumOfRow.2.1 22 = .ok (.iload_n 2, 1) := by decide +kernel
theorem dC_sumOfRow_23 : decode mC_sumOfRow.2.1 23 = .ok (.iload 4, 2) := by decide +kernel
theorem dC_sumOfRow_25 : decode mC_sumOfRow.2.1 25 = .ok (.invokevirtual 125, 3) := by decide +kernel
theorem dC_sumOfRow_28 : decode mC_sumOfRow.2.1 28 = .ok (.iadd, 1) := by decide +kernel
theorem dC_sumOfRow_29 : decode mC_sumOfRow.2.1 29 = .ok (.istore_n 3, 1) := by decide +kernel
theorem dC_sumOfRow_30 : decode mC_sumOfRow.2.1 30 = .ok (.iinc 4 1, 3) := by decide +kernel
theorem dC_sumOfRow_33 : decode mC_sumOfRow.2.1 33 = .ok (.goto (-28), 3) := by decide +kernel
theorem dC_sumOfRow_36 : decode mC_sumOfRow.2.1 36 = .ok (.iload_n 3, 1) := by decide +kernel
theorem dC_sumOfRow_37 : decode mC_sumOfRow.2.1 37 = .ok (.ireturn, 1) := by decide +kernel
theorem dC_spreadCell_0 : decode mC_spreadCell.2.1 0 = .ok (.aload_n 0, 1) := by decide +kernel
theorem dC_spreadCell_1 : decode mC_spreadCell.2.1 1 = .ok (.iload_n 1, 1) := by decide +kernel
theorem dC_spreadCell_2 : decode mC_spreadCell.2.1 2 = .ok (.aload_n 0, 1) := by decide +kernel
theorem dC_spreadCell_3 : decode mC_spreadCell.2.1 3 = .ok (.getfield 15, 3) := by decide +kernel
theorem dC_spreadCell_6 : decode mC_spreadCell.2.1 6 = .ok (.iload_n 1, 1) := by decide +kernel
theorem dC_spreadCell_7 : decode mC_spreadCell.2.1 7 = .ok (.aaload, 1) := by decide +kernel
theorem dC_spreadCell_8 : decode mC_spreadCell.2.1 8 = .ok (.getfield 83, 3) := by decide +kernel
theorem dC_spreadCell_11 : decode mC_spreadCell.2.1 11 = .ok (.iconst 1, 1) := by decide +kernel
theorem dC_spreadCell_12 : decode mC_spreadCell.2.1 12 = .ok (.if_icmp .ne 7, 3) := by decide +kernel
theorem dC_spreadCell_15 : decode mC_spreadCell.2.1 15 = .ok (.iconst 0, 1) := by decide +kernel
theorem dC_spreadCell_16 : decode mC_spreadCell.2.1 16 = .ok (.goto 4, 3) := by decide +kernel
theorem dC_spreadCell_19 : decode mC_spreadCell.2.1 19 = .ok (.iload_n 2, 1) := by decide +kernel
theorem dC_spreadCell_20 : decode mC_spreadCell.2.1 20 = .ok (.aload_n 0, 1) := by decide +kernel
theorem dC_spreadCell_21 : decode mC_spreadCell.2.1 21 = .ok (.getfield 15, 3) := by decide +kernel
theorem dC_spreadCell_24 : decode mC_spreadCell.2.1 24 = .ok (.iload_n 1, 1) := by decide +kernel
theorem dC_spreadCell_25 : decode mC_spreadCell.2.1 25 = .ok (.aaload, 1) := by decide +kernel
theorem dC_spreadCell_26 : decode mC_spreadCell.2.1 26 = .ok (.getfield 89, 3) := by decide +kernel
theorem dC_spreadCell_29 : decode mC_spreadCell.2.1 29 = .ok (.iconst 1, 1) := by decide +kernel
theorem dC_spreadCell_30 : decode mC_spreadCell.2.1 30 = .ok (.if_icmp .ne 7, 3) := by decide +kernel
theorem dC_spreadCell_33 : decode mC_spreadCell.2.1 33 = .ok (.iconst 0, 1) := by decide +kernel
theorem dC_spreadCell_34 : decode mC_spreadCell.2.1 34 = .ok (.goto 4, 3) := by decide +kernel
theorem dC_spreadCell_37 : decode mC_spreadCell.2.1 37 = .ok (.iload_n 3, 1) := by decide +kernel
theorem dC_spreadCell_38 : decode mC_spreadCell.2.1 38 = .ok (.invokevirtual 125, 3) := by decide +kernel
theorem dC_spreadCell_41 : decode mC_spreadCell.2.1 41 = .ok (.ireturn, 1) := by decide +kernel
