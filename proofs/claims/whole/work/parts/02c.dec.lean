theorem dM_init_0 : decode mM_init.2.1 0 = .ok (.aload_n 0, 1) := by decide +kernel
theorem dM_init_1 : decode mM_init.2.1 1 = .ok (.invokespecial 1, 3) := by decide +kernel
theorem dM_init_4 : decode mM_init.2.1 4 = .ok (.aload_n 0, 1) := by decide +kernel
theorem dM_init_5 : decode mM_init.2.1 5 = .ok (.bipush 56, 2) := by decide +kernel
theorem dM_init_7 : decode mM_init.2.1 7 = .ok (.newarray .int, 2) := by decide +kernel
theorem dM_init_9 : decode mM_init.2.1 9 = .ok (.putfield 7, 3) := by decide +kernel
theorem dM_init_12 : decode mM_init.2.1 12 = .ok (.aload_n 0, 1) := by decide +kernel
theorem dM_init_13 : decode mM_init.2.1 13 = .ok (.bipush 56, 2) := by decide +kernel
theorem dM_init_15 : decode mM_init.2.1 15 = .ok (.newarray .int, 2) := by decide +kernel
theorem dM_init_17 : decode mM_init.2.1 17 = .ok (.putfield 13, 3) := by decide +kernel
theorem dM_init_20 : decode mM_init.2.1 20 = .ok (.aload_n 0, 1) := by decide +kernel
theorem dM_init_21 : decode mM_init.2.1 21 = .ok (.bipush 56, 2) := by decide +kernel
theorem dM_init_23 : decode mM_init.2.1 23 = .ok (.newarray .int, 2) := by decide +kernel
theorem dM_init_25 : decode mM_init.2.1 25 = .ok (.putfield 16, 3) := by decide +kernel
theorem dM_init_28 : decode mM_init.2.1 28 = .ok (.aload_n 0, 1) := by decide +kernel
theorem dM_init_29 : decode mM_init.2.1 29 = .ok (.bipush 56, 2) := by decide +kernel
theorem dM_init_31 : decode mM_init.2.1 31 = .ok (.newarray .int, 2) := by decide +kernel
theorem dM_init_33 : decode mM_init.2.1 33 = .ok (.putfield 19, 3) := by decide +kernel
theorem dM_init_36 : decode mM_init.2.1 36 = .ok (.aload_n 0, 1) := by decide +kernel
theorem dM_init_37 : decode mM_init.2.1 37 = .ok (.bipush 56, 2) := by decide +kernel
theorem dM_init_39 : decode mM_init.2.1 39 = .ok (.newarray .int, 2) := by decide +kernel
theorem dM_init_41 : decode mM_init.2.1 41 = .ok (.putfield 22, 3) := by decide +kernel
theorem dM_init_44 : decode mM_init.2.1 44 = .ok (.aload_n 0, 1) := by decide +kernel
theorem dM_init_45 : decode mM_init.2.1 45 = .ok (.bipush 28, 2) := by decide +kernel
theorem dM_init_47 : decode mM_init.2.1 47 = .ok (.newarray .int, 2) := by decide +kernel
theorem dM_init_49 : decode mM_init.2.1 49 = .ok (.putfield 25, 3) := by decide +kernel
theorem dM_init_52 : decode mM_init.2.1 52 = .ok (.aload_n 0, 1) := by decide +kernel
theorem dM_init_53 : decode mM_init.2.1 53 = .ok (.bipush 28, 2) := by decide +kernel
theorem dM_init_55 : decode mM_init.2.1 55 = .ok (.newarray .int, 2) := by decide +kernel
theorem dM_init_57 : decode mM_init.2.1 57 = .ok (.putfield 28, 3) := by decide +kernel
theorem dM_init_60 : decode mM_init.2.1 60 = .ok (.aload_n 0, 1) := by decide +kernel
theorem dM_init_61 : decode mM_init.2.1 61 = .ok (.bipush 28, 2) := by decide +kernel
theorem dM_init_63 : decode mM_init.2.1 63 = .ok (.newarray .boolean, 2) := by decide +kernel
theorem dM_init_65 : decode mM_init.2.1 65 = .ok (.putfield 31, 3) := by decide +kernel
theorem dM_init_68 : decode mM_init.2.1 68 = .ok (.aload_n 0, 1) := by decide +kernel
theorem dM_init_69 : decode mM_init.2.1 69 = .ok (.bipush 28, 2) := by decide +kernel
theorem dM_init_71 : decode mM_init.2.1 71 = .ok (.newarray .int, 2) := by decide +kernel
theorem dM_init_73 : decode mM_init.2.1 73 = .ok (.putfield 35, 3) := by decide +kernel
theorem dM_init_76 : decode mM_init.2.1 76 = .ok (.aload_n 0, 1) := by decide +kernel
theorem dM_init_77 : decode mM_init.2.1 77 = .ok (.bipush 64, 2) := by decide +kernel
theorem dM_init_79 : decode mM_init.2.1 79 = .ok (.newarray .int, 2) := by decide +kernel
theorem dM_init_81 : decode mM_init.2.1 81 = .ok (.putfield 38, 3) := by decide +kernel
theorem dM_init_84 : decode mM_init.2.1 84 = .ok (.aload_n 0, 1) := by decide +kernel
theorem dM_init_85 : decode mM_init.2.1 85 = .ok (.sipush 448, 3) := by decide +kernel
theorem dM_init_88 : decode mM_init.2.1 88 = .ok (.newarray .int, 2) := by decide +kernel
theorem dM_init_90 : decode mM_init.2.1 90 = .ok (.putfield 41, 3) := by decide +kernel
theorem dM_init_93 : decode mM_init.2.1 93 = .ok (.aload_n 0, 1) := by decide +kernel
theorem dM_init_94 : decode mM_init.2.1 94 = .ok (.bipush 28, 2) := by decide +kernel
theorem dM_init_96 : decode mM_init.2.1 96 = .ok (.newarray .boolean, 2) := by decide +kernel
theorem dM_init_98 : decode mM_init.2.1 98 = .ok (.putfield 44, 3) := by decide +kernel
theorem dM_init_101 : decode mM_init.2.1 101 = .ok (.aload_n 0, 1) := by decide +kernel
theorem dM_init_102 : decode mM_init.2.1 102 = .ok (.bipush 7, 2) := by decide +kernel
theorem dM_init_104 : decode mM_init.2.1 104 = .ok (.newarray .int, 2) := by decide +kernel
theorem dM_init_106 : decode mM_init.2.1 106 = .ok (.putfield 47, 3) := by decide +kernel
theorem dM_init_109 : decode mM_init.2.1 109 = .ok (.return_, 1) := by decide +kernel
theorem dM_off_0 : decode mM_off.2.1 0 = .ok (.iload_n 1, 1) := by decide +kernel
theorem dM_off_1 : decode mM_off.2.1 1 = .ok (.iload_n 2, 1) := by decide +kernel
theorem dM_off_2 : decode mM_off.2.1 2 = .ok (.if_icmp .lt 8, 3) := by decide +kernel
theorem dM_off_5 : decode mM_off.2.1 5 = .ok (.iload_n 1, 1) := by decide +kernel
theorem dM_off_6 : decode mM_off.2.1 6 = .ok (.iload_n 3, 1) := by decide +kernel
theorem dM_off_7 : decode mM_off.2.1 7 = .ok (.if_icmp .le 7, 3) := by decide +kernel
theorem dM_off_10 : decode mM_off.2.1 10 = .ok (.iconst 1, 1) := by decide +kernel
theorem dM_off_11 : decode mM_off.2.1 11 = .ok (.goto 4, 3) := by decide +kernel
theorem dM_off_14 : decode mM_off.2.1 14 = .ok (.iconst 0, 1) := by decide +kernel
theorem dM_off_15 : decode mM_off.2.1 15 = .ok (.ireturn, 1) := by decide +kernel
theorem dM_no_0 : decode mM_no.2.1 0 = .ok (.iload_n 1, 1) := by decide +kernel
theorem dM_no_1 : decode mM_no.2.1 1 = .ok (.ifCond .lt 11, 3) := by decide +kernel
theorem dM_no_4 : decode mM_no.2.1 4 = .ok (.iload_n 1, 1) := by decide +kernel
theorem dM_no_5 : decode mM_no.2.1 5 = .ok (.aload_n 0, 1) := by decide +kernel
theorem dM_no_6 : decode mM_no.2.1 6 = .ok (.getfield 50, 3) := by decide +kernel
theorem dM_no_9 : decode mM_no.2.1 9 = .ok (.if_icmp .lt 7, 3) := by decide +kernel
theorem dM_no_12 : decode mM_no.2.1 12 = .ok (.iconst 1, 1) := by decide +kernel
theorem dM_no_13 : decode mM_no.2.1 13 = .ok (.goto 4, 3) := by decide +kernel
theorem dM_no_16 : decode mM_no.2.1 16 = .ok (.iconst 0, 1) := by decide +kernel
theorem dM_no_17 : decode mM_no.2.1 17 = .ok (.ireturn, 1) := by decide +kernel
theorem dM_unary_0 : decode mM_unary.2.1 0 = .ok (.iload_n 1, 1) := by decide +kernel
theorem dM_unary_1 : decode mM_unary.2.1 1 = .ok (.bipush 6, 2) := by decide +kernel
theorem dM_unary_3 : decode mM_unary.2.1 3 = .ok (.if_icmp .eq 15, 3) := by decide +kernel
theorem dM_unary_6 : decode mM_unary.2.1 6 = .ok (.iload_n 1, 1) := by decide +kernel
theorem dM_unary_7 : decode mM_unary.2.1 7 = .ok (.bipush 7, 2) := by decide +kernel
theorem dM_unary_9 : decode mM_unary.2.1 9 = .ok (.if_icmp .eq 9, 3) := by decide +kernel
theorem dM_unary_12 : decode mM_unary.2.1 12 = .ok (.iload_n 1, 1) := by decide +kernel
theorem dM_unary_13 : decode mM_unary.2.1 13 = .ok (.bipush 9, 2) := by decide +kernel
theorem dM_unary_15 : decode mM_unary.2.1 15 = .ok (.if_icmp .lt 7, 3) := by decide +kernel
theorem dM_unary_18 : decode mM_unary.2.1 18 = .ok (.iconst 1, 1) := by decide +kernel
theorem dM_unary_19 : decode mM_unary.2.1 19 = .ok (.goto 4, 3) := by decide +kernel
theorem dM_unary_22 : decode mM_unary.2.1 22 = .ok (.iconst 0, 1) := by decide +kernel
theorem dM_unary_23 : decode mM_unary.2.1 23 = .ok (.ireturn, 1) := by decide +kernel
theorem dM_restore_0 : decode mM_restore.2.1 0 = .ok (.aload_n 0, 1) := by decide +kernel
theorem dM_restore_1 : decode mM_restore.2.1 1 = .ok (.iconst 0, 1) := by decide +kernel
theorem dM_restore_2 : decode mM_restore.2.1 2 = .ok (.putfield 54, 3) := by decide +kernel
theorem dM_restore_5 : decode mM_restore.2.1 5 = .ok (.iconst 0, 1) := by decide +kernel
theorem dM_restore_6 : decode mM_restore.2.1 6 = .ok (.istore_n 1, 1) := by decide +kernel
theorem dM_restore_7 : decode mM_restore.2.1 7 = .ok (.iload_n 1, 1) := by decide +kernel
theorem dM_restore_8 : decode mM_restore.2.1 8 = .ok (.aload_n 0, 1) := by decide +kernel
theorem dM_restore_9 : decode mM_restore.2.1 9 = .ok (.getfield 50, 3) := by decide +kernel
theorem dM_restore_12 : decode mM_restore.2.1 12 = .ok (.if_icmp .ge 98, 3) := by decide +kernel
theorem dM_restore_15 : decode mM_restore.2.1 15 = .ok (.aload_n 0, 1) := by decide +kernel
theorem dM_restore_16 : decode mM_restore.2.1 16 = .ok (.getfield 7, 3) := by decide +kernel
theorem dM_restore_19 : decode mM_restore.2.1 19 = .ok (.iload_n 1, 1) := by decide +kernel
theorem dM_restore_20 : decode mM_restore.2.1 20 = .ok (.aload_n 0, 1) := by decide +kernel
theorem dM_restore_21 : decode mM_restore.2.1 21 = .ok (.getfield 7, 3) := by decide +kernel
theorem dM_restore_24 : decode mM_restore.2.1 24 = .ok (.bipush 28, 2) := by decide +kernel
theorem dM_restore_26 : decode mM_restore.2.1 26 = .ok (.iload_n 1, 1) := by decide +kernel
theorem dM_restore_27 : decode mM_restore.2.1 27 = .ok (.iadd, 1) := by decide +kernel
theorem dM_restore_28 : decode mM_restore.2.1 28 = .ok (.iaload, 1) := by decide +kernel
theorem dM_restore_29 : decode mM_restore.2.1 29 = .ok (.iastore, 1) := by decide +kernel
theorem dM_restore_30 : decode mM_restore.2.1 30 = .ok (.aload_n 0, 1) := by decide +kernel
theorem dM_restore_31 : decode mM_restore.2.1 31 = .ok (.getfield 13, 3) := by decide +kernel
theorem dM_restore_34 : decode mM_restore.2.1 34 = .ok (.iload_n 1, 1) := by decide +kernel
theorem dM_restore_35 : decode mM_restore.2.1 35 = .ok (.aload_n 0, 1) := by decide +kernel
theorem dM_restore_36 : decode mM_restore.2.1 36 = .ok (.getfield 13, 3) := by decide +kernel
theorem dM_restore_39 : decode mM_restore.2.1 39 = .ok (.bipush 28, 2) := by decide +kernel
theorem dM_restore_41 : decode mM_restore.2.1 41 = .ok (.iload_n 1, 1) := by decide +kernel
theorem dM_restore_42 : decode mM_restore.2.1 42 = .ok (.iadd, 1) := by decide +kernel
theorem dM_restore_43 : decode mM_restore.2.1 43 = .ok (.iaload, 1) := by decide +kernel
theorem dM_restore_44 : decode mM_restore.2.1 44 = .ok (.iastore, 1) := by decide +kernel
theorem dM_restore_45 : decode mM_restore.2.1 45 = .ok (.aload_n 0, 1) := by decide +kernel
theorem dM_restore_46 : decode mM_restore.2.1 46 = .ok (.getfield 16, 3) := by decide +kernel
theorem dM_restore_49 : decode mM_restore.2.1 49 = .ok (.iload_n 1, 1) := by decide +kernel
theorem dM_restore_50 : decode mM_restore.2.1 50 = .ok (.aload_n 0, 1) := by decide +kernel
theorem dM_restore_51 : decode mM_restore.2.1 51 = .ok (.getfield 16, 3) := by decide +kernel
theorem dM_restore_54 : decode mM_restore.2.1 54 = .ok (.bipush 28, 2) := by decide +kernel
theorem dM_restore_56 : decode mM_restore.2.1 56 = .ok (.iload_n 1, 1) := by decide +kernel
theorem dM_restore_57 : decode mM_restore.2.1 57 = .ok (.iadd, 1) := by decide +kernel
theorem dM_restore_58 : decode mM_restore.2.1 58 = .ok (.iaload, 1) := by decide +kernel
theorem dM_restore_59 : decode mM_restore.2.1 59 = .ok (.iastore, 1) := by decide +kernel
theorem dM_restore_60 : decode mM_restore.2.1 60 = .ok (.aload_n 0, 1) := by decide +kernel
theorem dM_restore_61 : decode mM_restore.2.1 61 = .ok (.getfield 19, 3) := by decide +kernel
theorem dM_restore_64 : decode mM_restore.2.1 64 = .ok (.iload_n 1, 1) := by decide +kernel
theorem dM_restore_65 : decode mM_restore.2.1 65 = .ok (.aload_n 0, 1) := by decide +kernel
theorem dM_restore_66 : decode mM_restore.2.1 66 = .ok (.getfield 19, 3) := by decide +kernel
theorem dM_restore_69 : decode mM_restore.2.1 69 = .ok (.bipush 28, 2) := by decide +kernel
theorem dM_restore_71 : decode mM_restore.2.1 71 = .ok (.iload_n 1, 1) := by decide +kernel
theorem dM_restore_72 : decode mM_restore.2.1 72 = .ok (.iadd, 1) := by decide +kernel
theorem dM_restore_73 : decode mM_restore.2.1 73 = .ok (.iaload, 1) := by decide +kernel
theorem dM_restore_74 : decode mM_restore.2.1 74 = .ok (.iastore, 1) := by decide +kernel
theorem dM_restore_75 : decode mM_restore.2.1 75 = .ok (.aload_n 0, 1) := by decide +kernel
theorem dM_restore_76 : decode mM_restore.2.1 76 = .ok (.getfield 22, 3) := by decide +kernel
theorem dM_restore_79 : decode mM_restore.2.1 79 = .ok (.iload_n 1, 1) := by decide +kernel
theorem dM_restore_80 : decode mM_restore.2.1 80 = .ok (.aload_n 0, 1) := by decide +kernel
theorem dM_restore_81 : decode mM_restore.2.1 81 = .ok (.getfield 22, 3) := by decide +kernel
theorem dM_restore_84 : decode mM_restore.2.1 84 = .ok (.bipush 28, 2) := by decide +kernel
theorem dM_restore_86 : decode mM_restore.2.1 86 = .ok (.iload_n 1, 1) := by decide +kernel
theorem dM_restore_87 : decode mM_restore.2.1 87 = .ok (.iadd, 1) := by decide +kernel
theorem dM_restore_88 : decode mM_restore.2.1 88 = .ok (.iaload, 1) := by decide +kernel
theorem dM_restore_89 : decode mM_restore.2.1 89 = .ok (.iastore, 1) := by decide +kernel
theorem dM_restore_90 : decode mM_restore.2.1 90 = .ok (.aload_n 0, 1) := by decide +kernel
theorem dM_restore_91 : decode mM_restore.2.1 91 = .ok (.getfield 35, 3) := by decide +kernel
theorem dM_restore_94 : decode mM_restore.2.1 94 = .ok (.iload_n 1, 1) := by decide +kernel
theorem dM_restore_95 : decode mM_restore.2.1 95 = .ok (.iload_n 1, 1) := by decide +kernel
theorem dM_restore_96 : decode mM_restore.2.1 96 = .ok (.iastore, 1) := by decide +kernel
theorem dM_restore_97 : decode mM_restore.2.1 97 = .ok (.aload_n 0, 1) := by decide +kernel
theorem dM_restore_98 : decode mM_restore.2.1 98 = .ok (.getfield 44, 3) := by decide +kernel
theorem dM_restore_101 : decode mM_restore.2.1 101 = .ok (.iload_n 1, 1) := by decide +kernel
theorem dM_restore_102 : decode mM_restore.2.1 102 = .ok (.iconst 0, 1) := by decide +kernel
theorem dM_restore_103 : decode mM_restore.2.1 103 = .ok (.bastore, 1) := by decide +kernel
theorem dM_restore_104 : decode mM_restore.2.1 104 = .ok (.iinc 1 1, 3) := by decide +kernel
theorem dM_restore_107 : decode mM_restore.2.1 107 = .ok (.goto (-100), 3) := by decide +kernel
theorem dM_restore_110 : decode mM_restore.2.1 110 = .ok (.return_, 1) := by decide +kernel
theorem dM_add_0 : decode mM_add.2.1 0 = .ok (.aload_n 0, 1) := by decide +kernel
theorem dM_add_1 : decode mM_add.2.1 1 = .ok (.getfield 50, 3) := by decide +kernel
theorem dM_add_4 : decode mM_add.2.1 4 = .ok (.bipush 28, 2) := by decide +kernel
theorem dM_add_6 : decode mM_add.2.1 6 = .ok (.if_icmp .ne 6, 3) := by decide +kernel
theorem dM_add_9 : decode mM_add.2.1 9 = .ok (.bipush (-2), 2) := by decide +kernel
theorem dM_add_11 : decode mM_add.2.1 11 = .ok (.ireturn, 1) := by decide +kernel
theorem dM_add_12 : decode mM_add.2.1 12 = .ok (.aload_n 0, 1) := by decide +kernel
theorem dM_add_13 : decode mM_add.2.1 13 = .ok (.getfield 7, 3) := by decide +kernel
theorem dM_add_16 : decode mM_add.2.1 16 = .ok (.bipush 28, 2) := by decide +kernel
theorem dM_add_18 : decode mM_add.2.1 18 = .ok (.aload_n 0, 1) := by decide +kernel
theorem dM_add_19 : decode mM_add.2.1 19 = .ok (.getfield 50, 3) := by decide +kernel
theorem dM_add_22 : decode mM_add.2.1 22 = .ok (.iadd, 1) := by decide +kernel
theorem dM_add_23 : decode mM_add.2.1 23 = .ok (.iload_n 1, 1) := by decide +kernel
theorem dM_add_24 : decode mM_add.2.1 24 = .ok (.iastore, 1) := by decide +kernel
theorem dM_add_25 : decode mM_add.2.1 25 = .ok (.aload_n 0, 1) := by decide +kernel
theorem dM_add_26 : decode mM_add.2.1 26 = .ok (.getfield 13, 3) := by decide +kernel
theorem dM_add_29 : decode mM_add.2.1 29 = .ok (.bipush 28, 2) := by decide +kernel
theorem dM_add_31 : decode mM_add.2.1 31 = .ok (.aload_n 0, 1) := by decide +kernel
theorem dM_add_32 : decode mM_add.2.1 32 = .ok (.getfield 50, 3) := by decide +kernel
theorem dM_add_35 : decode mM_add.2.1 35 = .ok (.iadd, 1) := by decide +kernel
theorem dM_add_36 : decode mM_add.2.1 36 = .ok (.iload_n 2, 1) := by decide +kernel
theorem dM_add_37 : decode mM_add.2.1 37 = .ok (.iastore, 1) := by decide +kernel
theorem dM_add_38 : decode mM_add.2.1 38 = .ok (.aload_n 0, 1) := by decide +kernel
theorem dM_add_39 : decode mM_add.2.1 39 = .ok (.getfield 16, 3) := by decide +kernel
theorem dM_add_42 : decode mM_add.2.1 42 = .ok (.bipush 28, 2) := by decide +kernel
theorem dM_add_44 : decode mM_add.2.1 44 = .ok (.aload_n 0, 1) := by decide +kernel
theorem dM_add_45 : decode mM_add.2.1 45 = .ok (.getfield 50, 3) := by decide +kernel
theorem dM_add_48 : decode mM_add.2.1 48 = .ok (.iadd, 1) := by decide +kernel
theorem dM_add_49 : decode mM_add.2.1 49 = .ok (.iload_n 3, 1) := by decide +kernel
theorem dM_add_50 : decode mM_add.2.1 50 = .ok (.iastore, 1) := by decide +kernel
theorem dM_add_51 : decode mM_add.2.1 51 = .ok (.aload_n 0, 1) := by decide +kernel
theorem dM_add_52 : decode mM_add.2.1 52 = .ok (.getfield 19, 3) := by decide +kernel
theorem dM_add_55 : decode mM_add.2.1 55 = .ok (.bipush 28, 2) := by decide +kernel
theorem dM_add_57 : decode mM_add.2.1 57 = .ok (.aload_n 0, 1) := by decide +kernel
theorem dM_add_58 : decode mM_add.2.1 58 = .ok (.getfield 50, 3) := by decide +kernel
theorem dM_add_61 : decode mM_add.2.1 61 = .ok (.iadd, 1) := by decide +kernel
theorem dM_add_62 : decode mM_add.2.1 62 = .ok (.iload 4, 2) := by decide +kernel
theorem dM_add_64 : decode mM_add.2.1 64 = .ok (.iastore, 1) := by decide +kernel
theorem dM_add_65 : decode mM_add.2.1 65 = .ok (.aload_n 0, 1) := by decide +kernel
theorem dM_add_66 : decode mM_add.2.1 66 = .ok (.getfield 22, 3) := by decide +kernel
theorem dM_add_69 : decode mM_add.2.1 69 = .ok (.bipush 28, 2) := by decide +kernel
theorem dM_add_71 : decode mM_add.2.1 71 = .ok (.aload_n 0, 1) := by decide +kernel
theorem dM_add_72 : decode mM_add.2.1 72 = .ok (.getfield 50, 3) := by decide +kernel
theorem dM_add_75 : decode mM_add.2.1 75 = .ok (.iadd, 1) := by decide +kernel
theorem dM_add_76 : decode mM_add.2.1 76 = .ok (.iload 5, 2) := by decide +kernel
theorem dM_add_78 : decode mM_add.2.1 78 = .ok (.iastore, 1) := by decide +kernel
theorem dM_add_79 : decode mM_add.2.1 79 = .ok (.aload_n 0, 1) := by decide +kernel
theorem dM_add_80 : decode mM_add.2.1 80 = .ok (.getfield 25, 3) := by decide +kernel
theorem dM_add_83 : decode mM_add.2.1 83 = .ok (.aload_n 0, 1) := by decide +kernel
theorem dM_add_84 : decode mM_add.2.1 84 = .ok (.getfield 50, 3) := by decide +kernel
theorem dM_add_87 : decode mM_add.2.1 87 = .ok (.iload 6, 2) := by decide +kernel
theorem dM_add_89 : decode mM_add.2.1 89 = .ok (.iastore, 1) := by decide +kernel
theorem dM_add_90 : decode mM_add.2.1 90 = .ok (.aload_n 0, 1) := by decide +kernel
theorem dM_add_91 : decode mM_add.2.1 91 = .ok (.getfield 28, 3) := by decide +kernel
theorem dM_add_94 : decode mM_add.2.1 94 = .ok (.aload_n 0, 1) := by decide +kernel
theorem dM_add_95 : decode mM_add.2.1 95 = .ok (.getfield 50, 3) := by decide +kernel
theorem dM_add_98 : decode mM_add.2.1 98 = .ok (.iload 7, 2) := by decide +kernel
theorem dM_add_100 : decode mM_add.2.1 100 = .ok (.iastore, 1) := by decide +kernel
theorem dM_add_101 : decode mM_add.2.1 101 = .ok (.aload_n 0, 1) := by decide +kernel
theorem dM_add_102 : decode mM_add.2.1 102 = .ok (.getfield 31, 3) := by decide +kernel
theorem dM_add_105 : decode mM_add.2.1 105 = .ok (.aload_n 0, 1) := by decide +kernel
theorem dM_add_106 : decode mM_add.2.1 106 = .ok (.getfield 50, 3) := by decide +kernel
theorem dM_add_109 : decode mM_add.2.1 109 = .ok (.iconst 0, 1) := by decide +kernel
theorem dM_add_110 : decode mM_add.2.1 110 = .ok (.bastore, 1) := by decide +kernel
theorem dM_add_111 : decode mM_add.2.1 111 = .ok (.aload_n 0, 1) := by decide +kernel
theorem dM_add_112 : decode mM_add.2.1 112 = .ok (.dup, 1) := by decide +kernel
theorem dM_add_113 : decode mM_add.2.1 113 = .ok (.getfield 50, 3) := by decide +kernel
theorem dM_add_116 : decode mM_add.2.1 116 = .ok (.iconst 1, 1) := by decide +kernel
theorem dM_add_117 : decode mM_add.2.1 117 = .ok (.iadd, 1) := by decide +kernel
theorem dM_add_118 : decode mM_add.2.1 118 = .ok (.putfield 50, 3) := by decide +kernel
theorem dM_add_121 : decode mM_add.2.1 121 = .ok (.aload_n 0, 1) := by decide +kernel
theorem dM_add_122 : decode mM_add.2.1 122 = .ok (.invokevirtual 58, 3) := by decide +kernel
theorem dM_add_125 : decode mM_add.2.1 125 = .ok (.aload_n 0, 1) := by decide +kernel
theorem dM_add_126 : decode mM_add.2.1 126 = .ok (.getfield 50, 3) := by decide +kernel
theorem dM_add_129 : decode mM_add.2.1 129 = .ok (.iconst 1, 1) := by decide +kernel
theorem dM_add_130 : decode mM_add.2.1 130 = .ok (.isub, 1) := by decide +kernel
theorem dM_add_131 : decode mM_add.2.1 131 = .ok (.ireturn, 1) := by decide +kernel
theorem dM_source_0 : decode mM_source.2.1 0 = .ok (.aload_n 0, 1) := by decide +kernel
theorem dM_source_1 : decode mM_source.2.1 1 = .ok (.iload_n 1, 1) := by decide +kernel
theorem dM_source_2 : decode mM_source.2.1 2 = .ok (.iconst 0, 1) := by decide +kernel
theorem dM_source_3 : decode mM_source.2.1 3 = .ok (.iconst 2, 1) := by decide +kernel
theorem dM_source_4 : decode mM_source.2.1 4 = .ok (.invokevirtual 61, 3) := by decide +kernel
theorem dM_source_7 : decode mM_source.2.1 7 = .ok (.ifCond .ne 23, 3) := by decide +kernel
theorem dM_source_10 : decode mM_source.2.1 10 = .ok (.aload_n 0, 1) := by decide +kernel
theorem dM_source_11 : decode mM_source.2.1 11 = .ok (.iload_n 2, 1) := by decide +kernel
theorem dM_source_12 : decode mM_source.2.1 12 = .ok (.iconst 1, 1) := by decide +kernel
theorem dM_source_13 : decode mM_source.2.1 13 = .ok (.iconst 4, 1) := by decide +kernel
theorem dM_source_14 : decode mM_source.2.1 14 = .ok (.invokevirtual 61, 3) := by decide +kernel
theorem dM_source_17 : decode mM_source.2.1 17 = .ok (.ifCond .ne 13, 3) := by decide +kernel
theorem dM_source_20 : decode mM_source.2.1 20 = .ok (.aload_n 0, 1) := by decide +kernel
theorem dM_source_21 : decode mM_source.2.1 21 = .ok (.iload_n 3, 1) := by decide +kernel
theorem dM_source_22 : decode mM_source.2.1 22 = .ok (.iconst 1, 1) := by decide +kernel
theorem dM_source_23 : decode mM_source.2.1 23 = .ok (.iconst 4, 1) := by decide +kernel
theorem dM_source_24 : decode mM_source.2.1 24 = .ok (.invokevirtual 61, 3) := by decide +kernel
theorem dM_source_27 : decode mM_source.2.1 27 = .ok (.ifCond .eq 5, 3) := by decide +kernel
theorem dM_source_30 : decode mM_source.2.1 30 = .ok (.iconst (-1), 1) := by decide +kernel
theorem dM_source_31 : decode mM_source.2.1 31 = .ok (.ireturn, 1) := by decide +kernel
theorem dM_source_32 : decode mM_source.2.1 32 = .ok (.iload_n 1, 1) := by decide +kernel
theorem dM_source_33 : decode mM_source.2.1 33 = .ok (.ifCond .ne 14, 3) := by decide +kernel
theorem dM_source_36 : decode mM_source.2.1 36 = .ok (.aload_n 0, 1) := by decide +kernel
theorem dM_source_37 : decode mM_source.2.1 37 = .ok (.iload 4, 2) := by decide +kernel
theorem dM_source_39 : decode mM_source.2.1 39 = .ok (.iconst 0, 1) := by decide +kernel
theorem dM_source_40 : decode mM_source.2.1 40 = .ok (.iconst 3, 1) := by decide +kernel
theorem dM_source_41 : decode mM_source.2.1 41 = .ok (.invokevirtual 61, 3) := by decide +kernel
theorem dM_source_44 : decode mM_source.2.1 44 = .ok (.ifCond .ne 19, 3) := by decide +kernel
theorem dM_source_47 : decode mM_source.2.1 47 = .ok (.iload_n 1, 1) := by decide +kernel
theorem dM_source_48 : decode mM_source.2.1 48 = .ok (.iconst 2, 1) := by decide +kernel
theorem dM_source_49 : decode mM_source.2.1 49 = .ok (.if_icmp .ne 16, 3) := by decide +kernel
theorem dM_source_52 : decode mM_source.2.1 52 = .ok (.aload_n 0, 1) := by decide +kernel
theorem dM_source_53 : decode mM_source.2.1 53 = .ok (.iload 4, 2) := by decide +kernel
theorem dM_source_55 : decode mM_source.2.1 55 = .ok (.iconst 0, 1) := by decide +kernel
theorem dM_source_56 : decode mM_source.2.1 56 = .ok (.iconst 1, 1) := by decide +kernel
theorem dM_source_57 : decode mM_source.2.1 57 = .ok (.invokevirtual 61, 3) := by decide +kernel
theorem dM_source_60 : decode mM_source.2.1 60 = .ok (.ifCond .eq 5, 3) := by decide +kernel
theorem dM_source_63 : decode mM_source.2.1 63 = .ok (.iconst (-1), 1) := by decide +kernel
theorem dM_source_64 : decode mM_source.2.1 64 = .ok (.ireturn, 1) := by decide +kernel
theorem dM_source_65 : decode mM_source.2.1 65 = .ok (.aload_n 0, 1) := by decide +kernel
theorem dM_source_66 : decode mM_source.2.1 66 = .ok (.iload_n 1, 1) := by decide +kernel
theorem dM_source_67 : decode mM_source.2.1 67 = .ok (.iconst (-1), 1) := by decide +kernel
theorem dM_source_68 : decode mM_source.2.1 68 = .ok (.iconst (-1), 1) := by decide +kernel
theorem dM_source_69 : decode mM_source.2.1 69 = .ok (.iload 4, 2) := by decide +kernel
theorem dM_source_71 : decode mM_source.2.1 71 = .ok (.iconst 0, 1) := by decide +kernel
theorem dM_source_72 : decode mM_source.2.1 72 = .ok (.iload_n 2, 1) := by decide +kernel
theorem dM_source_73 : decode mM_source.2.1 73 = .ok (.iload_n 3, 1) := by decide +kernel
theorem dM_source_74 : decode mM_source.2.1 74 = .ok (.invokevirtual 65, 3) := by decide +kernel
theorem dM_source_77 : decode mM_source.2.1 77 = .ok (.ireturn, 1) := by decide +kernel
theorem dM_operation_0 : decode mM_operation.2.1 0 = .ok (.aload_n 0, 1) := by decide +kernel
theorem dM_operation_1 : decode mM_operation.2.1 1 = .ok (.iload_n 1, 1) := by decide +kernel
theorem dM_operation_2 : decode mM_operation.2.1 2 = .ok (.iconst 3, 1) := by decide +kernel
theorem dM_operation_3 : decode mM_operation.2.1 3 = .ok (.bipush 9, 2) := by decide +kernel
theorem dM_operation_5 : decode mM_operation.2.1 5 = .ok (.invokevirtual 61, 3) := by decide +kernel
theorem dM_operation_8 : decode mM_operation.2.1 8 = .ok (.ifCond .ne 53, 3) := by decide +kernel
theorem dM_operation_11 : decode mM_operation.2.1 11 = .ok (.aload_n 0, 1) := by decide +kernel
theorem dM_operation_12 : decode mM_operation.2.1 12 = .ok (.iload_n 2, 1) := by decide +kernel
theorem dM_operation_13 : decode mM_operation.2.1 13 = .ok (.invokevirtual 69, 3) := by decide +kernel
theorem dM_operation_16 : decode mM_operation.2.1 16 = .ok (.ifCond .ne 45, 3) := by decide +kernel
theorem dM_operation_19 : decode mM_operation.2.1 19 = .ok (.aload_n 0, 1) := by decide +kernel
theorem dM_operation_20 : decode mM_operation.2.1 20 = .ok (.iload_n 3, 1) := by decide +kernel
theorem dM_operation_21 : decode mM_operation.2.1 21 = .ok (.invokevirtual 69, 3) := by decide +kernel
theorem dM_operation_24 : decode mM_operation.2.1 24 = .ok (.ifCond .ne 37, 3) := by decide +kernel
theorem dM_operation_27 : decode mM_operation.2.1 27 = .ok (.aload_n 0, 1) := by decide +kernel
theorem dM_operation_28 : decode mM_operation.2.1 28 = .ok (.iload_n 1, 1) := by decide +kernel
theorem dM_operation_29 : decode mM_operation.2.1 29 = .ok (.invokevirtual 73, 3) := by decide +kernel
theorem dM_operation_32 : decode mM_operation.2.1 32 = .ok (.ifCond .eq 8, 3) := by decide +kernel
theorem dM_operation_35 : decode mM_operation.2.1 35 = .ok (.iload_n 2, 1) := by decide +kernel
theorem dM_operation_36 : decode mM_operation.2.1 36 = .ok (.iload_n 3, 1) := by decide +kernel
theorem dM_operation_37 : decode mM_operation.2.1 37 = .ok (.if_icmp .ne 24, 3) := by decide +kernel
theorem dM_operation_40 : decode mM_operation.2.1 40 = .ok (.aload_n 0, 1) := by decide +kernel
theorem dM_operation_41 : decode mM_operation.2.1 41 = .ok (.iload 4, 2) := by decide +kernel
theorem dM_operation_43 : decode mM_operation.2.1 43 = .ok (.iconst 0, 1) := by decide +kernel
theorem dM_operation_44 : decode mM_operation.2.1 44 = .ok (.iload_n 1, 1) := by decide +kernel
theorem dM_operation_45 : decode mM_operation.2.1 45 = .ok (.bipush 9, 2) := by decide +kernel
theorem dM_operation_47 : decode mM_operation.2.1 47 = .ok (.if_icmp .ne 7, 3) := by decide +kernel
theorem dM_operation_50 : decode mM_operation.2.1 50 = .ok (.iconst 1, 1) := by decide +kernel
theorem dM_operation_51 : decode mM_operation.2.1 51 = .ok (.goto 4, 3) := by decide +kernel
theorem dM_operation_54 : decode mM_operation.2.1 54 = .ok (.iconst 0, 1) := by decide +kernel
theorem dM_operation_55 : decode mM_operation.2.1 55 = .ok (.invokevirtual 61, 3) := by decide +kernel
theorem dM_operation_58 : decode mM_operation.2.1 58 = .ok (.ifCond .eq 5, 3) := by decide +kernel
theorem dM_operation_61 : decode mM_operation.2.1 61 = .ok (.iconst (-1), 1) := by decide +kernel
theorem dM_operation_62 : decode mM_operation.2.1 62 = .ok (.ireturn, 1) := by decide +kernel
theorem dM_operation_63 : decode mM_operation.2.1 63 = .ok (.aload_n 0, 1) := by decide +kernel
theorem dM_operation_64 : decode mM_operation.2.1 64 = .ok (.getfield 25, 3) := by decide +kernel
theorem dM_operation_67 : decode mM_operation.2.1 67 = .ok (.iload_n 2, 1) := by decide +kernel
theorem dM_operation_68 : decode mM_operation.2.1 68 = .ok (.iaload, 1) := by decide +kernel
theorem dM_operation_69 : decode mM_operation.2.1 69 = .ok (.aload_n 0, 1) := by decide +kernel
theorem dM_operation_70 : decode mM_operation.2.1 70 = .ok (.getfield 25, 3) := by decide +kernel
theorem dM_operation_73 : decode mM_operation.2.1 73 = .ok (.iload_n 3, 1) := by decide +kernel
theorem dM_operation_74 : decode mM_operation.2.1 74 = .ok (.iaload, 1) := by decide +kernel
theorem dM_operation_75 : decode mM_operation.2.1 75 = .ok (.if_icmp .ne 22, 3) := by decide +kernel
theorem dM_operation_78 : decode mM_operation.2.1 78 = .ok (.aload_n 0, 1) := by decide +kernel
theorem dM_operation_79 : decode mM_operation.2.1 79 = .ok (.getfield 28, 3) := by decide +kernel
theorem dM_operation_82 : decode mM_operation.2.1 82 = .ok (.iload_n 2, 1) := by decide +kernel
theorem dM_operation_83 : decode mM_operation.2.1 83 = .ok (.iaload, 1) := by decide +kernel
theorem dM_operation_84 : decode mM_operation.2.1 84 = .ok (.aload_n 0, 1) := by decide +kernel
theorem dM_operation_85 : decode mM_operation.2.1 85 = .ok (.getfield 28, 3) := by decide +kernel
theorem dM_operation_88 : decode mM_operation.2.1 88 = .ok (.iload_n 3, 1) := by decide +kernel
theorem dM_operation_89 : decode mM_operation.2.1 89 = .ok (.iaload, 1) := by decide +kernel
theorem dM_operation_90 : decode mM_operation.2.1 90 = .ok (.if_icmp .ne 7, 3) := by decide +kernel
theorem dM_operation_93 : decode mM_operation.2.1 93 = .ok (.iconst 1, 1) := by decide +kernel
theorem dM_operation_94 : decode mM_operation.2.1 94 = .ok (.goto 4, 3) := by decide +kernel
theorem dM_operation_97 : decode mM_operation.2.1 97 = .ok (.iconst 0, 1) := by decide +kernel
theorem dM_operation_98 : decode mM_operation.2.1 98 = .ok (.istore 5, 2) := by decide +kernel
theorem dM_operation_100 : decode mM_operation.2.1 100 = .ok (.iload_n 1, 1) := by decide +kernel
theorem dM_operation_101 : decode mM_operation.2.1 101 = .ok (.bipush 6, 2) := by decide +kernel
theorem dM_operation_103 : decode mM_operation.2.1 103 = .ok (.if_icmp .ge 8, 3) := by decide +kernel
theorem dM_operation_106 : decode mM_operation.2.1 106 = .ok (.iload 5, 2) := by decide +kernel
theorem dM_operation_108 : decode mM_operation.2.1 108 = .ok (.ifCond .eq 24, 3) := by decide +kernel
theorem dM_operation_111 : decode mM_operation.2.1 111 = .ok (.iload_n 1, 1) := by decide +kernel
theorem dM_operation_112 : decode mM_operation.2.1 112 = .ok (.bipush 8, 2) := by decide +kernel
theorem dM_operation_114 : decode mM_operation.2.1 114 = .ok (.if_icmp .ne 21, 3) := by decide +kernel
theorem dM_operation_117 : decode mM_operation.2.1 117 = .ok (.aload_n 0, 1) := by decide +kernel
theorem dM_operation_118 : decode mM_operation.2.1 118 = .ok (.getfield 28, 3) := by decide +kernel
theorem dM_operation_121 : decode mM_operation.2.1 121 = .ok (.iload_n 2, 1) := by decide +kernel
theorem dM_operation_122 : decode mM_operation.2.1 122 = .ok (.iaload, 1) := by decide +kernel
theorem dM_operation_123 : decode mM_operation.2.1 123 = .ok (.aload_n 0, 1) := by decide +kernel
theorem dM_operation_124 : decode mM_operation.2.1 124 = .ok (.getfield 25, 3) := by decide +kernel
theorem dM_operation_127 : decode mM_operation.2.1 127 = .ok (.iload_n 3, 1) := by decide +kernel
theorem dM_operation_128 : decode mM_operation.2.1 128 = .ok (.iaload, 1) := by decide +kernel
theorem dM_operation_129 : decode mM_operation.2.1 129 = .ok (.if_icmp .eq 6, 3) := by decide +kernel
theorem dM_operation_132 : decode mM_operation.2.1 132 = .ok (.bipush (-3), 2) := by decide +kernel
theorem dM_operation_134 : decode mM_operation.2.1 134 = .ok (.ireturn, 1) := by decide +kernel
theorem dM_operation_135 : decode mM_operation.2.1 135 = .ok (.iload_n 1, 1) := by decide +kernel
theorem dM_operation_136 : decode mM_operation.2.1 136 = .ok (.bipush 7, 2) := by decide +kernel
theorem dM_operation_138 : decode mM_operation.2.1 138 = .ok (.if_icmp .ne 12, 3) := by decide +kernel
theorem dM_operation_141 : decode mM_operation.2.1 141 = .ok (.aload_n 0, 1) := by decide +kernel
theorem dM_operation_142 : decode mM_operation.2.1 142 = .ok (.getfield 28, 3) := by decide +kernel
theorem dM_operation_145 : decode mM_operation.2.1 145 = .ok (.iload_n 2, 1) := by decide +kernel
theorem dM_operation_146 : decode mM_operation.2.1 146 = .ok (.iaload, 1) := by decide +kernel
theorem dM_operation_147 : decode mM_operation.2.1 147 = .ok (.goto 24, 3) := by decide +kernel
theorem dM_operation_150 : decode mM_operation.2.1 150 = .ok (.iload_n 1, 1) := by decide +kernel
theorem dM_operation_151 : decode mM_operation.2.1 151 = .ok (.bipush 9, 2) := by decide +kernel
theorem dM_operation_153 : decode mM_operation.2.1 153 = .ok (.if_icmp .ne 12, 3) := by decide +kernel
theorem dM_operation_156 : decode mM_operation.2.1 156 = .ok (.iload 4, 2) := by decide +kernel
theorem dM_operation_158 : decode mM_operation.2.1 158 = .ok (.ifCond .ne 7, 3) := by decide +kernel
theorem dM_operation_161 : decode mM_operation.2.1 161 = .ok (.iconst 1, 1) := by decide +kernel
theorem dM_operation_162 : decode mM_operation.2.1 162 = .ok (.goto 9, 3) := by decide +kernel
theorem dM_operation_165 : decode mM_operation.2.1 165 = .ok (.aload_n 0, 1) := by decide +kernel
theorem dM_operation_166 : decode mM_operation.2.1 166 = .ok (.getfield 25, 3) := by decide +kernel
theorem dM_operation_169 : decode mM_operation.2.1 169 = .ok (.iload_n 2, 1) := by decide +kernel
theorem dM_operation_170 : decode mM_operation.2.1 170 = .ok (.iaload, 1) := by decide +kernel
theorem dM_operation_171 : decode mM_operation.2.1 171 = .ok (.istore 6, 2) := by decide +kernel
theorem dM_operation_173 : decode mM_operation.2.1 173 = .ok (.iload_n 1, 1) := by decide +kernel
theorem dM_operation_174 : decode mM_operation.2.1 174 = .ok (.bipush 7, 2) := by decide +kernel
theorem dM_operation_176 : decode mM_operation.2.1 176 = .ok (.if_icmp .ne 12, 3) := by decide +kernel
theorem dM_operation_179 : decode mM_operation.2.1 179 = .ok (.aload_n 0, 1) := by decide +kernel
theorem dM_operation_180 : decode mM_operation.2.1 180 = .ok (.getfield 25, 3) := by decide +kernel
theorem dM_operation_183 : decode mM_operation.2.1 183 = .ok (.iload_n 2, 1) := by decide +kernel
theorem dM_operation_184 : decode mM_operation.2.1 184 = .ok (.iaload, 1) := by decide +kernel
theorem dM_operation_185 : decode mM_operation.2.1 185 = .ok (.goto 40, 3) := by decide +kernel
theorem dM_operation_188 : decode mM_operation.2.1 188 = .ok (.iload_n 1, 1) := by decide +kernel
theorem dM_operation_189 : decode mM_operation.2.1 189 = .ok (.bipush 8, 2) := by decide +kernel
theorem dM_operation_191 : decode mM_operation.2.1 191 = .ok (.if_icmp .ne 12, 3) := by decide +kernel
theorem dM_operation_194 : decode mM_operation.2.1 194 = .ok (.aload_n 0, 1) := by decide +kernel
theorem dM_operation_195 : decode mM_operation.2.1 195 = .ok (.getfield 28, 3) := by decide +kernel
theorem dM_operation_198 : decode mM_operation.2.1 198 = .ok (.iload_n 3, 1) := by decide +kernel
theorem dM_operation_199 : decode mM_operation.2.1 199 = .ok (.iaload, 1) := by decide +kernel
theorem dM_operation_200 : decode mM_operation.2.1 200 = .ok (.goto 25, 3) := by decide +kernel
theorem dM_operation_203 : decode mM_operation.2.1 203 = .ok (.iload_n 1, 1) := by decide +kernel
theorem dM_operation_204 : decode mM_operation.2.1 204 = .ok (.bipush 9, 2) := by decide +kernel
theorem dM_operation_206 : decode mM_operation.2.1 206 = .ok (.if_icmp .ne 13, 3) := by decide +kernel
theorem dM_operation_209 : decode mM_operation.2.1 209 = .ok (.iload 4, 2) := by decide +kernel
theorem dM_operation_211 : decode mM_operation.2.1 211 = .ok (.iconst 1, 1) := by decide +kernel
theorem dM_operation_212 : decode mM_operation.2.1 212 = .ok (.if_icmp .ne 7, 3) := by decide +kernel
theorem dM_operation_215 : decode mM_operation.2.1 215 = .ok (.iconst 1, 1) := by decide +kernel
theorem dM_operation_216 : decode mM_operation.2.1 216 = .ok (.goto 9, 3) := by decide +kernel
theorem dM_operation_219 : decode mM_operation.2.1 219 = .ok (.aload_n 0, 1) := by decide +kernel
theorem dM_operation_220 : decode mM_operation.2.1 220 = .ok (.getfield 28, 3) := by decide +kernel
theorem dM_operation_223 : decode mM_operation.2.1 223 = .ok (.iload_n 2, 1) := by decide +kernel
theorem dM_operation_224 : decode mM_operation.2.1 224 = .ok (.iaload, 1) := by decide +kernel
theorem dM_operation_225 : decode mM_operation.2.1 225 = .ok (.istore 7, 2) := by decide +kernel
theorem dM_operation_227 : decode mM_operation.2.1 227 = .ok (.aload_n 0, 1) := by decide +kernel
theorem dM_operation_228 : decode mM_operation.2.1 228 = .ok (.iload_n 1, 1) := by decide +kernel
theorem dM_operation_229 : decode mM_operation.2.1 229 = .ok (.iload_n 2, 1) := by decide +kernel
theorem dM_operation_230 : decode mM_operation.2.1 230 = .ok (.aload_n 0, 1) := by decide +kernel
theorem dM_operation_231 : decode mM_operation.2.1 231 = .ok (.iload_n 1, 1) := by decide +kernel
theorem dM_operation_232 : decode mM_operation.2.1 232 = .ok (.invokevirtual 73, 3) := by decide +kernel
theorem dM_operation_235 : decode mM_operation.2.1 235 = .ok (.ifCond .eq 7, 3) := by decide +kernel
theorem dM_operation_238 : decode mM_operation.2.1 238 = .ok (.iconst (-1), 1) := by decide +kernel
theorem dM_operation_239 : decode mM_operation.2.1 239 = .ok (.goto 4, 3) := by decide +kernel
theorem dM_operation_242 : decode mM_operation.2.1 242 = .ok (.iload_n 3, 1) := by decide +kernel
theorem dM_operation_243 : decode mM_operation.2.1 243 = .ok (.iload 4, 2) := by decide +kernel
theorem dM_operation_245 : decode mM_operation.2.1 245 = .ok (.iconst 0, 1) := by decide +kernel
theorem dM_operation_246 : decode mM_operation.2.1 246 = .ok (.iload 6, 2) := by decide +kernel
theorem dM_operation_248 : decode mM_operation.2.1 248 = .ok (.iload 7, 2) := by decide +kernel
theorem dM_operation_250 : decode mM_operation.2.1 250 = .ok (.invokevirtual 65, 3) := by decide +kernel
theorem dM_operation_253 : decode mM_operation.2.1 253 = .ok (.ireturn, 1) := by decide +kernel
theorem dM_reshape_0 : decode mM_reshape.2.1 0 = .ok (.aload_n 0, 1) := by decide +kernel
theorem dM_reshape_1 : decode mM_reshape.2.1 1 = .ok (.iload_n 1, 1) := by decide +kernel
theorem dM_reshape_2 : decode mM_reshape.2.1 2 = .ok (.bipush 10, 2) := by decide +kernel
theorem dM_reshape_4 : decode mM_reshape.2.1 4 = .ok (.bipush 11, 2) := by decide +kernel
theorem dM_reshape_6 : decode mM_reshape.2.1 6 = .ok (.invokevirtual 61, 3) := by decide +kernel
theorem dM_reshape_9 : decode mM_reshape.2.1 9 = .ok (.ifCond .ne 32, 3) := by decide +kernel
theorem dM_reshape_12 : decode mM_reshape.2.1 12 = .ok (.aload_n 0, 1) := by decide +kernel
theorem dM_reshape_13 : decode mM_reshape.2.1 13 = .ok (.iload_n 2, 1) := by decide +kernel
theorem dM_reshape_14 : decode mM_reshape.2.1 14 = .ok (.invokevirtual 69, 3) := by decide +kernel
theorem dM_reshape_17 : decode mM_reshape.2.1 17 = .ok (.ifCond .ne 24, 3) := by decide +kernel
theorem dM_reshape_20 : decode mM_reshape.2.1 20 = .ok (.aload_n 0, 1) := by decide +kernel
theorem dM_reshape_21 : decode mM_reshape.2.1 21 = .ok (.iload_n 3, 1) := by decide +kernel
theorem dM_reshape_22 : decode mM_reshape.2.1 22 = .ok (.iconst 1, 1) := by decide +kernel
theorem dM_reshape_23 : decode mM_reshape.2.1 23 = .ok (.iconst 4, 1) := by decide +kernel
theorem dM_reshape_24 : decode mM_reshape.2.1 24 = .ok (.invokevirtual 61, 3) := by decide +kernel
theorem dM_reshape_27 : decode mM_reshape.2.1 27 = .ok (.ifCond .ne 14, 3) := by decide +kernel
theorem dM_reshape_30 : decode mM_reshape.2.1 30 = .ok (.aload_n 0, 1) := by decide +kernel
theorem dM_reshape_31 : decode mM_reshape.2.1 31 = .ok (.iload 4, 2) := by decide +kernel
theorem dM_reshape_33 : decode mM_reshape.2.1 33 = .ok (.iconst 1, 1) := by decide +kernel
theorem dM_reshape_34 : decode mM_reshape.2.1 34 = .ok (.iconst 4, 1) := by decide +kernel
theorem dM_reshape_35 : decode mM_reshape.2.1 35 = .ok (.invokevirtual 61, 3) := by decide +kernel
theorem dM_reshape_38 : decode mM_reshape.2.1 38 = .ok (.ifCond .eq 5, 3) := by decide +kernel
theorem dM_reshape_41 : decode mM_reshape.2.1 41 = .ok (.iconst (-1), 1) := by decide +kernel
theorem dM_reshape_42 : decode mM_reshape.2.1 42 = .ok (.ireturn, 1) := by decide +kernel
theorem dM_reshape_43 : decode mM_reshape.2.1 43 = .ok (.aload_n 0, 1) := by decide +kernel
theorem dM_reshape_44 : decode mM_reshape.2.1 44 = .ok (.getfield 25, 3) := by decide +kernel
theorem dM_reshape_47 : decode mM_reshape.2.1 47 = .ok (.iload_n 2, 1) := by decide +kernel
theorem dM_reshape_48 : decode mM_reshape.2.1 48 = .ok (.iaload, 1) := by decide +kernel
theorem dM_reshape_49 : decode mM_reshape.2.1 49 = .ok (.istore 5, 2) := by decide +kernel
theorem dM_reshape_51 : decode mM_reshape.2.1 51 = .ok (.aload_n 0, 1) := by decide +kernel
theorem dM_reshape_52 : decode mM_reshape.2.1 52 = .ok (.getfield 28, 3) := by decide +kernel
theorem dM_reshape_55 : decode mM_reshape.2.1 55 = .ok (.iload_n 2, 1) := by decide +kernel
theorem dM_reshape_56 : decode mM_reshape.2.1 56 = .ok (.iaload, 1) := by decide +kernel
theorem dM_reshape_57 : decode mM_reshape.2.1 57 = .ok (.istore 6, 2) := by decide +kernel
theorem dM_reshape_59 : decode mM_reshape.2.1 59 = .ok (.iload_n 1, 1) := by decide +kernel
theorem dM_reshape_60 : decode mM_reshape.2.1 60 = .ok (.bipush 10, 2) := by decide +kernel
theorem dM_reshape_62 : decode mM_reshape.2.1 62 = .ok (.if_icmp .ne 31, 3) := by decide +kernel
theorem dM_reshape_65 : decode mM_reshape.2.1 65 = .ok (.iload 5, 2) := by decide +kernel
theorem dM_reshape_67 : decode mM_reshape.2.1 67 = .ok (.iconst 1, 1) := by decide +kernel
theorem dM_reshape_68 : decode mM_reshape.2.1 68 = .ok (.if_icmp .eq 9, 3) := by decide +kernel
theorem dM_reshape_71 : decode mM_reshape.2.1 71 = .ok (.iload 5, 2) := by decide +kernel
theorem dM_reshape_73 : decode mM_reshape.2.1 73 = .ok (.iload_n 3, 1) := by decide +kernel
theorem dM_reshape_74 : decode mM_reshape.2.1 74 = .ok (.if_icmp .ne 31, 3) := by decide +kernel
theorem dM_reshape_77 : decode mM_reshape.2.1 77 = .ok (.iload 6, 2) := by decide +kernel
theorem dM_reshape_79 : decode mM_reshape.2.1 79 = .ok (.iconst 1, 1) := by decide +kernel
theorem dM_reshape_80 : decode mM_reshape.2.1 80 = .ok (.if_icmp .eq 28, 3) := by decide +kernel
theorem dM_reshape_83 : decode mM_reshape.2.1 83 = .ok (.iload 6, 2) := by decide +kernel
theorem dM_reshape_85 : decode mM_reshape.2.1 85 = .ok (.iload 4, 2) := by decide +kernel
theorem dM_reshape_87 : decode mM_reshape.2.1 87 = .ok (.if_icmp .eq 21, 3) := by decide +kernel
theorem dM_reshape_90 : decode mM_reshape.2.1 90 = .ok (.goto 15, 3) := by decide +kernel
theorem dM_reshape_93 : decode mM_reshape.2.1 93 = .ok (.iload 5, 2) := by decide +kernel
theorem dM_reshape_95 : decode mM_reshape.2.1 95 = .ok (.iload 6, 2) := by decide +kernel
theorem dM_reshape_97 : decode mM_reshape.2.1 97 = .ok (.imul, 1) := by decide +kernel
theorem dM_reshape_98 : decode mM_reshape.2.1 98 = .ok (.iload_n 3, 1) := by decide +kernel
theorem dM_reshape_99 : decode mM_reshape.2.1 99 = .ok (.iload 4, 2) := by decide +kernel
theorem dM_reshape_101 : decode mM_reshape.2.1 101 = .ok (.imul, 1) := by decide +kernel
theorem dM_reshape_102 : decode mM_reshape.2.1 102 = .ok (.if_icmp .eq 6, 3) := by decide +kernel
theorem dM_reshape_105 : decode mM_reshape.2.1 105 = .ok (.bipush (-3), 2) := by decide +kernel
theorem dM_reshape_107 : decode mM_reshape.2.1 107 = .ok (.ireturn, 1) := by decide +kernel
theorem dM_reshape_108 : decode mM_reshape.2.1 108 = .ok (.aload_n 0, 1) := by decide +kernel
theorem dM_reshape_109 : decode mM_reshape.2.1 109 = .ok (.iload_n 1, 1) := by decide +kernel
theorem dM_reshape_110 : decode mM_reshape.2.1 110 = .ok (.iload_n 2, 1) := by decide +kernel
theorem dM_reshape_111 : decode mM_reshape.2.1 111 = .ok (.iconst (-1), 1) := by decide +kernel
theorem dM_reshape_112 : decode mM_reshape.2.1 112 = .ok (.iconst 0, 1) := by decide +kernel
theorem dM_reshape_113 : decode mM_reshape.2.1 113 = .ok (.iconst 0, 1) := by decide +kernel
theorem dM_reshape_114 : decode mM_reshape.2.1 114 = .ok (.iload_n 3, 1) := by decide +kernel
theorem dM_reshape_115 : decode mM_reshape.2.1 115 = .ok (.iload 4, 2) := by decide +kernel
theorem dM_reshape_117 : decode mM_reshape.2.1 117 = .ok (.invokevirtual 65, 3) := by decide +kernel
theorem dM_reshape_120 : decode mM_reshape.2.1 120 = .ok (.ireturn, 1) := by decide +kernel
theorem dM_part_0 : decode mM_part.2.1 0 = .ok (.aload_n 0, 1) := by decide +kernel
theorem dM_part_1 : decode mM_part.2.1 1 = .ok (.iload_n 1, 1) := by decide +kernel
theorem dM_part_2 : decode mM_part.2.1 2 = .ok (.invokevirtual 69, 3) := by decide +kernel
theorem dM_part_5 : decode mM_part.2.1 5 = .ok (.ifCond .ne 45, 3) := by decide +kernel
theorem dM_part_8 : decode mM_part.2.1 8 = .ok (.aload_n 0, 1) := by decide +kernel
theorem dM_part_9 : decode mM_part.2.1 9 = .ok (.iload_n 2, 1) := by decide +kernel
theorem dM_part_10 : decode mM_part.2.1 10 = .ok (.iconst 0, 1) := by decide +kernel
theorem dM_part_11 : decode mM_part.2.1 11 = .ok (.iconst 3, 1) := by decide +kernel
theorem dM_part_12 : decode mM_part.2.1 12 = .ok (.invokevirtual 61, 3) := by decide +kernel
theorem dM_part_15 : decode mM_part.2.1 15 = .ok (.ifCond .ne 35, 3) := by decide +kernel
theorem dM_part_18 : decode mM_part.2.1 18 = .ok (.aload_n 0, 1) := by decide +kernel
theorem dM_part_19 : decode mM_part.2.1 19 = .ok (.iload_n 3, 1) := by decide +kernel
theorem dM_part_20 : decode mM_part.2.1 20 = .ok (.iconst 0, 1) := by decide +kernel
theorem dM_part_21 : decode mM_part.2.1 21 = .ok (.iconst 3, 1) := by decide +kernel
theorem dM_part_22 : decode mM_part.2.1 22 = .ok (.invokevirtual 61, 3) := by decide +kernel
theorem dM_part_25 : decode mM_part.2.1 25 = .ok (.ifCond .ne 25, 3) := by decide +kernel
theorem dM_part_28 : decode mM_part.2.1 28 = .ok (.aload_n 0, 1) := by decide +kernel
theorem dM_part_29 : decode mM_part.2.1 29 = .ok (.iload 4, 2) := by decide +kernel
theorem dM_part_31 : decode mM_part.2.1 31 = .ok (.iconst 1, 1) := by decide +kernel
theorem dM_part_32 : decode mM_part.2.1 32 = .ok (.iconst 4, 1) := by decide +kernel
theorem dM_part_33 : decode mM_part.2.1 33 = .ok (.invokevirtual 61, 3) := by decide +kernel
theorem dM_part_36 : decode mM_part.2.1 36 = .ok (.ifCond .ne 14, 3) := by decide +kernel
theorem dM_part_39 : decode mM_part.2.1 39 = .ok (.aload_n 0, 1) := by decide +kernel
theorem dM_part_40 : decode mM_part.2.1 40 = .ok (.iload 5, 2) := by decide +kernel
theorem dM_part_42 : decode mM_part.2.1 42 = .ok (.iconst 1, 1) := by decide +kernel
theorem dM_part_43 : decode mM_part.2.1 43 = .ok (.iconst 4, 1) := by decide +kernel
theorem dM_part_44 : decode mM_part.2.1 44 = .ok (.invokevirtual 61, 3) := by decide +kernel
theorem dM_part_47 : decode mM_part.2.1 47 = .ok (.ifCond .eq 5, 3) := by decide +kernel
theorem dM_part_50 : decode mM_part.2.1 50 = .ok (.iconst (-1), 1) := by decide +kernel
theorem dM_part_51 : decode mM_part.2.1 51 = .ok (.ireturn, 1) := by decide +kernel
theorem dM_part_52 : decode mM_part.2.1 52 = .ok (.iload_n 2, 1) := by decide +kernel
theorem dM_part_53 : decode mM_part.2.1 53 = .ok (.iload 4, 2) := by decide +kernel
theorem dM_part_55 : decode mM_part.2.1 55 = .ok (.iadd, 1) := by decide +kernel
theorem dM_part_56 : decode mM_part.2.1 56 = .ok (.aload_n 0, 1) := by decide +kernel
theorem dM_part_57 : decode mM_part.2.1 57 = .ok (.getfield 25, 3) := by decide +kernel
theorem dM_part_60 : decode mM_part.2.1 60 = .ok (.iload_n 1, 1) := by decide +kernel
theorem dM_part_61 : decode mM_part.2.1 61 = .ok (.iaload, 1) := by decide +kernel
theorem dM_part_62 : decode mM_part.2.1 62 = .ok (.if_icmp .gt 16, 3) := by decide +kernel
theorem dM_part_65 : decode mM_part.2.1 65 = .ok (.iload_n 3, 1) := by decide +kernel
theorem dM_part_66 : decode mM_part.2.1 66 = .ok (.iload 5, 2) := by decide +kernel
theorem dM_part_68 : decode mM_part.2.1 68 = .ok (.iadd, 1) := by decide +kernel
theorem dM_part_69 : decode mM_part.2.1 69 = .ok (.aload_n 0, 1) := by decide +kernel
theorem dM_part_70 : decode mM_part.2.1 70 = .ok (.getfield 28, 3) := by decide +kernel
theorem dM_part_73 : decode mM_part.2.1 73 = .ok (.iload_n 1, 1) := by decide +kernel
theorem dM_part_74 : decode mM_part.2.1 74 = .ok (.iaload, 1) := by decide +kernel
theorem dM_part_75 : decode mM_part.2.1 75 = .ok (.if_icmp .le 6, 3) := by decide +kernel
theorem dM_part_78 : decode mM_part.2.1 78 = .ok (.bipush (-3), 2) := by decide +kernel
theorem dM_part_80 : decode mM_part.2.1 80 = .ok (.ireturn, 1) := by decide +kernel
theorem dM_part_81 : decode mM_part.2.1 81 = .ok (.aload_n 0, 1) := by decide +kernel
theorem dM_part_82 : decode mM_part.2.1 82 = .ok (.bipush 12, 2) := by decide +kernel
theorem dM_part_84 : decode mM_part.2.1 84 = .ok (.iload_n 1, 1) := by decide +kernel
theorem dM_part_85 : decode mM_part.2.1 85 = .ok (.iconst (-1), 1) := by decide +kernel
theorem dM_part_86 : decode mM_part.2.1 86 = .ok (.iload_n 2, 1) := by decide +kernel
theorem dM_part_87 : decode mM_part.2.1 87 = .ok (.iload_n 3, 1) := by decide +kernel
theorem dM_part_88 : decode mM_part.2.1 88 = .ok (.iload 4, 2) := by decide +kernel
theorem dM_part_90 : decode mM_part.2.1 90 = .ok (.iload 5, 2) := by decide +kernel
theorem dM_part_92 : decode mM_part.2.1 92 = .ok (.invokevirtual 65, 3) := by decide +kernel
theorem dM_part_95 : decode mM_part.2.1 95 = .ok (.ireturn, 1) := by decide +kernel
theorem dM_mark_0 : decode mM_mark.2.1 0 = .ok (.aload_n 0, 1) := by decide +kernel
theorem dM_mark_1 : decode mM_mark.2.1 1 = .ok (.iload_n 1, 1) := by decide +kernel
theorem dM_mark_2 : decode mM_mark.2.1 2 = .ok (.invokevirtual 69, 3) := by decide +kernel
theorem dM_mark_5 : decode mM_mark.2.1 5 = .ok (.ifCond .eq 5, 3) := by decide +kernel
theorem dM_mark_8 : decode mM_mark.2.1 8 = .ok (.iconst (-1), 1) := by decide +kernel
theorem dM_mark_9 : decode mM_mark.2.1 9 = .ok (.ireturn, 1) := by decide +kernel
theorem dM_mark_10 : decode mM_mark.2.1 10 = .ok (.aload_n 0, 1) := by decide +kernel
theorem dM_mark_11 : decode mM_mark.2.1 11 = .ok (.getfield 31, 3) := by decide +kernel
theorem dM_mark_14 : decode mM_mark.2.1 14 = .ok (.iload_n 1, 1) := by decide +kernel
theorem dM_mark_15 : decode mM_mark.2.1 15 = .ok (.iload_n 2, 1) := by decide +kernel
theorem dM_mark_16 : decode mM_mark.2.1 16 = .ok (.bastore, 1) := by decide +kernel
theorem dM_mark_17 : decode mM_mark.2.1 17 = .ok (.aload_n 0, 1) := by decide +kernel
theorem dM_mark_18 : decode mM_mark.2.1 18 = .ok (.invokevirtual 58, 3) := by decide +kernel
theorem dM_mark_21 : decode mM_mark.2.1 21 = .ok (.iconst 0, 1) := by decide +kernel
theorem dM_mark_22 : decode mM_mark.2.1 22 = .ok (.ireturn, 1) := by decide +kernel
theorem dM_set_0 : decode mM_set.2.1 0 = .ok (.aload_n 0, 1) := by decide +kernel
theorem dM_set_1 : decode mM_set.2.1 1 = .ok (.iload_n 1, 1) := by decide +kernel
theorem dM_set_2 : decode mM_set.2.1 2 = .ok (.iconst 0, 1) := by decide +kernel
theorem dM_set_3 : decode mM_set.2.1 3 = .ok (.iconst 3, 1) := by decide +kernel
theorem dM_set_4 : decode mM_set.2.1 4 = .ok (.invokevirtual 61, 3) := by decide +kernel
theorem dM_set_7 : decode mM_set.2.1 7 = .ok (.ifCond .ne 23, 3) := by decide +kernel
theorem dM_set_10 : decode mM_set.2.1 10 = .ok (.aload_n 0, 1) := by decide +kernel
theorem dM_set_11 : decode mM_set.2.1 11 = .ok (.iload_n 2, 1) := by decide +kernel
theorem dM_set_12 : decode mM_set.2.1 12 = .ok (.iconst 0, 1) := by decide +kernel
theorem dM_set_13 : decode mM_set.2.1 13 = .ok (.iconst 3, 1) := by decide +kernel
theorem dM_set_14 : decode mM_set.2.1 14 = .ok (.invokevirtual 61, 3) := by decide +kernel
theorem dM_set_17 : decode mM_set.2.1 17 = .ok (.ifCond .ne 13, 3) := by decide +kernel
theorem dM_set_20 : decode mM_set.2.1 20 = .ok (.aload_n 0, 1) := by decide +kernel
theorem dM_set_21 : decode mM_set.2.1 21 = .ok (.iload_n 3, 1) := by decide +kernel
theorem dM_set_22 : decode mM_set.2.1 22 = .ok (.iconst 0, 1) := by decide +kernel
theorem dM_set_23 : decode mM_set.2.1 23 = .ok (.iconst 3, 1) := by decide +kernel
theorem dM_set_24 : decode mM_set.2.1 24 = .ok (.invokevirtual 61, 3) := by decide +kernel
theorem dM_set_27 : decode mM_set.2.1 27 = .ok (.ifCond .eq 5, 3) := by decide +kernel
theorem dM_set_30 : decode mM_set.2.1 30 = .ok (.iconst (-1), 1) := by decide +kernel
theorem dM_set_31 : decode mM_set.2.1 31 = .ok (.ireturn, 1) := by decide +kernel
theorem dM_set_32 : decode mM_set.2.1 32 = .ok (.aload_n 0, 1) := by decide +kernel
theorem dM_set_33 : decode mM_set.2.1 33 = .ok (.getfield 38, 3) := by decide +kernel
theorem dM_set_36 : decode mM_set.2.1 36 = .ok (.iload_n 1, 1) := by decide +kernel
theorem dM_set_37 : decode mM_set.2.1 37 = .ok (.bipush 16, 2) := by decide +kernel
theorem dM_set_39 : decode mM_set.2.1 39 = .ok (.imul, 1) := by decide +kernel
theorem dM_set_40 : decode mM_set.2.1 40 = .ok (.iload_n 2, 1) := by decide +kernel
theorem dM_set_41 : decode mM_set.2.1 41 = .ok (.iconst 4, 1) := by decide +kernel
theorem dM_set_42 : decode mM_set.2.1 42 = .ok (.imul, 1) := by decide +kernel
theorem dM_set_43 : decode mM_set.2.1 43 = .ok (.iadd, 1) := by decide +kernel
theorem dM_set_44 : decode mM_set.2.1 44 = .ok (.iload_n 3, 1) := by decide +kernel
theorem dM_set_45 : decode mM_set.2.1 45 = .ok (.iadd, 1) := by decide +kernel
theorem dM_set_46 : decode mM_set.2.1 46 = .ok (.iload 4, 2) := by decide +kernel
theorem dM_set_48 : decode mM_set.2.1 48 = .ok (.iastore, 1) := by decide +kernel
theorem dM_set_49 : decode mM_set.2.1 49 = .ok (.iconst 0, 1) := by decide +kernel
theorem dM_set_50 : decode mM_set.2.1 50 = .ok (.ireturn, 1) := by decide +kernel
theorem dM_splat_0 : decode mM_splat.2.1 0 = .ok (.aload_n 0, 1) := by decide +kernel
theorem dM_splat_1 : decode mM_splat.2.1 1 = .ok (.getfield 7, 3) := by decide +kernel
theorem dM_splat_4 : decode mM_splat.2.1 4 = .ok (.iload_n 1, 1) := by decide +kernel
theorem dM_splat_5 : decode mM_splat.2.1 5 = .ok (.iaload, 1) := by decide +kernel
theorem dM_splat_6 : decode mM_splat.2.1 6 = .ok (.iconst 1, 1) := by decide +kernel
theorem dM_splat_7 : decode mM_splat.2.1 7 = .ok (.if_icmp .ne 17, 3) := by decide +kernel
theorem dM_splat_10 : decode mM_splat.2.1 10 = .ok (.aload_n 0, 1) := by decide +kernel
theorem dM_splat_11 : decode mM_splat.2.1 11 = .ok (.getfield 19, 3) := by decide +kernel
theorem dM_splat_14 : decode mM_splat.2.1 14 = .ok (.iload_n 1, 1) := by decide +kernel
theorem dM_splat_15 : decode mM_splat.2.1 15 = .ok (.iaload, 1) := by decide +kernel
theorem dM_splat_16 : decode mM_splat.2.1 16 = .ok (.iload_n 2, 1) := by decide +kernel
theorem dM_splat_17 : decode mM_splat.2.1 17 = .ok (.if_icmp .ne 7, 3) := by decide +kernel
theorem dM_splat_20 : decode mM_splat.2.1 20 = .ok (.iconst 1, 1) := by decide +kernel
theorem dM_splat_21 : decode mM_splat.2.1 21 = .ok (.goto 4, 3) := by decide +kernel
theorem dM_splat_24 : decode mM_splat.2.1 24 = .ok (.iconst 0, 1) := by decide +kernel
theorem dM_splat_25 : decode mM_splat.2.1 25 = .ok (.ireturn, 1) := by decide +kernel
theorem dM_sameShape_0 : decode mM_sameShape.2.1 0 = .ok (.aload_n 0, 1) := by decide +kernel
theorem dM_sameShape_1 : decode mM_sameShape.2.1 1 = .ok (.getfield 25, 3) := by decide +kernel
theorem dM_sameShape_4 : decode mM_sameShape.2.1 4 = .ok (.iload_n 1, 1) := by decide +kernel
theorem dM_sameShape_5 : decode mM_sameShape.2.1 5 = .ok (.iaload, 1) := by decide +kernel
theorem dM_sameShape_6 : decode mM_sameShape.2.1 6 = .ok (.aload_n 0, 1) := by decide +kernel
theorem dM_sameShape_7 : decode mM_sameShape.2.1 7 = .ok (.getfield 25, 3) := by decide +kernel
theorem dM_sameShape_10 : decode mM_sameShape.2.1 10 = .ok (.iload_n 2, 1) := by decide +kernel
theorem dM_sameShape_11 : decode mM_sameShape.2.1 11 = .ok (.iaload, 1) := by decide +kernel
theorem dM_sameShape_12 : decode mM_sameShape.2.1 12 = .ok (.if_icmp .ne 22, 3) := by decide +kernel
theorem dM_sameShape_15 : decode mM_sameShape.2.1 15 = .ok (.aload_n 0, 1) := by decide +kernel
theorem dM_sameShape_16 : decode mM_sameShape.2.1 16 = .ok (.getfield 28, 3) := by decide +kernel
theorem dM_sameShape_19 : decode mM_sameShape.2.1 19 = .ok (.iload_n 1, 1) := by decide +kernel
theorem dM_sameShape_20 : decode mM_sameShape.2.1 20 = .ok (.iaload, 1) := by decide +kernel
theorem dM_sameShape_21 : decode mM_sameShape.2.1 21 = .ok (.aload_n 0, 1) := by decide +kernel
theorem dM_sameShape_22 : decode mM_sameShape.2.1 22 = .ok (.getfield 28, 3) := by decide +kernel
theorem dM_sameShape_25 : decode mM_sameShape.2.1 25 = .ok (.iload_n 2, 1) := by decide +kernel
theorem dM_sameShape_26 : decode mM_sameShape.2.1 26 = .ok (.iaload, 1) := by decide +kernel
theorem dM_sameShape_27 : decode mM_sameShape.2.1 27 = .ok (.if_icmp .ne 7, 3) := by decide +kernel
theorem dM_sameShape_30 : decode mM_sameShape.2.1 30 = .ok (.iconst 1, 1) := by decide +kernel
theorem dM_sameShape_31 : decode mM_sameShape.2.1 31 = .ok (.goto 4, 3) := by decide +kernel
theorem dM_sameShape_34 : decode mM_sameShape.2.1 34 = .ok (.iconst 0, 1) := by decide +kernel
theorem dM_sameShape_35 : decode mM_sameShape.2.1 35 = .ok (.ireturn, 1) := by decide +kernel
theorem dM_become_0 : decode mM_become.2.1 0 = .ok (.aload_n 0, 1) := by decide +kernel
theorem dM_become_1 : decode mM_become.2.1 1 = .ok (.getfield 7, 3) := by decide +kernel
theorem dM_become_4 : decode mM_become.2.1 4 = .ok (.iload_n 1, 1) := by decide +kernel
theorem dM_become_5 : decode mM_become.2.1 5 = .ok (.iconst 1, 1) := by decide +kernel
theorem dM_become_6 : decode mM_become.2.1 6 = .ok (.iastore, 1) := by decide +kernel
theorem dM_become_7 : decode mM_become.2.1 7 = .ok (.aload_n 0, 1) := by decide +kernel
theorem dM_become_8 : decode mM_become.2.1 8 = .ok (.getfield 13, 3) := by decide +kernel
theorem dM_become_11 : decode mM_become.2.1 11 = .ok (.iload_n 1, 1) := by decide +kernel
theorem dM_become_12 : decode mM_become.2.1 12 = .ok (.iconst (-1), 1) := by decide +kernel
theorem dM_become_13 : decode mM_become.2.1 13 = .ok (.iastore, 1) := by decide +kernel
theorem dM_become_14 : decode mM_become.2.1 14 = .ok (.aload_n 0, 1) := by decide +kernel
theorem dM_become_15 : decode mM_become.2.1 15 = .ok (.getfield 16, 3) := by decide +kernel
theorem dM_become_18 : decode mM_become.2.1 18 = .ok (.iload_n 1, 1) := by decide +kernel
theorem dM_become_19 : decode mM_become.2.1 19 = .ok (.iconst (-1), 1) := by decide +kernel
theorem dM_become_20 : decode mM_become.2.1 20 = .ok (.iastore, 1) := by decide +kernel
theorem dM_become_21 : decode mM_become.2.1 21 = .ok (.aload_n 0, 1) := by decide +kernel
theorem dM_become_22 : decode mM_become.2.1 22 = .ok (.getfield 19, 3) := by decide +kernel
theorem dM_become_25 : decode mM_become.2.1 25 = .ok (.iload_n 1, 1) := by decide +kernel
theorem dM_become_26 : decode mM_become.2.1 26 = .ok (.iload_n 2, 1) := by decide +kernel
theorem dM_become_27 : decode mM_become.2.1 27 = .ok (.iastore, 1) := by decide +kernel
theorem dM_become_28 : decode mM_become.2.1 28 = .ok (.aload_n 0, 1) := by decide +kernel
theorem dM_become_29 : decode mM_become.2.1 29 = .ok (.getfield 22, 3) := by decide +kernel
theorem dM_become_32 : decode mM_become.2.1 32 = .ok (.iload_n 1, 1) := by decide +kernel
theorem dM_become_33 : decode mM_become.2.1 33 = .ok (.iconst 0, 1) := by decide +kernel
theorem dM_become_34 : decode mM_become.2.1 34 = .ok (.iastore, 1) := by decide +kernel
theorem dM_become_35 : decode mM_become.2.1 35 = .ok (.return_, 1) := by decide +kernel
