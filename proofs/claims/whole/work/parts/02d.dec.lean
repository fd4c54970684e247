theorem dM_folded_0 : decode mM_folded.2.1 0 = .ok (.aload_n 0, 1) := by decide +kernel
theorem dM_folded_1 : decode mM_folded.2.1 1 = .ok (.getfield 19, 3) := by decide +kernel
theorem dM_folded_4 : decode mM_folded.2.1 4 = .ok (.aload_n 0, 1) := by decide +kernel
theorem dM_folded_5 : decode mM_folded.2.1 5 = .ok (.getfield 13, 3) := by decide +kernel
theorem dM_folded_8 : decode mM_folded.2.1 8 = .ok (.iload_n 1, 1) := by decide +kernel
theorem dM_folded_9 : decode mM_folded.2.1 9 = .ok (.iaload, 1) := by decide +kernel
theorem dM_folded_10 : decode mM_folded.2.1 10 = .ok (.iaload, 1) := by decide +kernel
theorem dM_folded_11 : decode mM_folded.2.1 11 = .ok (.istore_n 2, 1) := by decide +kernel
theorem dM_folded_12 : decode mM_folded.2.1 12 = .ok (.aload_n 0, 1) := by decide +kernel
theorem dM_folded_13 : decode mM_folded.2.1 13 = .ok (.getfield 16, 3) := by decide +kernel
theorem dM_folded_16 : decode mM_folded.2.1 16 = .ok (.iload_n 1, 1) := by decide +kernel
theorem dM_folded_17 : decode mM_folded.2.1 17 = .ok (.iaload, 1) := by decide +kernel
theorem dM_folded_18 : decode mM_folded.2.1 18 = .ok (.ifCond .ge 7, 3) := by decide +kernel
theorem dM_folded_21 : decode mM_folded.2.1 21 = .ok (.iconst 0, 1) := by decide +kernel
theorem dM_folded_22 : decode mM_folded.2.1 22 = .ok (.goto 14, 3) := by decide +kernel
theorem dM_folded_25 : decode mM_folded.2.1 25 = .ok (.aload_n 0, 1) := by decide +kernel
theorem dM_folded_26 : decode mM_folded.2.1 26 = .ok (.getfield 19, 3) := by decide +kernel
theorem dM_folded_29 : decode mM_folded.2.1 29 = .ok (.aload_n 0, 1) := by decide +kernel
theorem dM_folded_30 : decode mM_folded.2.1 30 = .ok (.getfield 16, 3) := by decide +kernel
theorem dM_folded_33 : decode mM_folded.2.1 33 = .ok (.iload_n 1, 1) := by decide +kernel
theorem dM_folded_34 : decode mM_folded.2.1 34 = .ok (.iaload, 1) := by decide +kernel
theorem dM_folded_35 : decode mM_folded.2.1 35 = .ok (.iaload, 1) := by decide +kernel
theorem dM_folded_36 : decode mM_folded.2.1 36 = .ok (.istore_n 3, 1) := by decide +kernel
theorem dM_folded_37 : decode mM_folded.2.1 37 = .ok (.aload_n 0, 1) := by decide +kernel
theorem dM_folded_38 : decode mM_folded.2.1 38 = .ok (.getfield 7, 3) := by decide +kernel
theorem dM_folded_41 : decode mM_folded.2.1 41 = .ok (.iload_n 1, 1) := by decide +kernel
theorem dM_folded_42 : decode mM_folded.2.1 42 = .ok (.iaload, 1) := by decide +kernel
theorem dM_folded_43 : decode mM_folded.2.1 43 = .ok (.istore 4, 2) := by decide +kernel
theorem dM_folded_45 : decode mM_folded.2.1 45 = .ok (.iload 4, 2) := by decide +kernel
theorem dM_folded_47 : decode mM_folded.2.1 47 = .ok (.iconst 3, 1) := by decide +kernel
theorem dM_folded_48 : decode mM_folded.2.1 48 = .ok (.if_icmp .ne 7, 3) := by decide +kernel
theorem dM_folded_51 : decode mM_folded.2.1 51 = .ok (.iload_n 2, 1) := by decide +kernel
theorem dM_folded_52 : decode mM_folded.2.1 52 = .ok (.iload_n 3, 1) := by decide +kernel
theorem dM_folded_53 : decode mM_folded.2.1 53 = .ok (.iadd, 1) := by decide +kernel
theorem dM_folded_54 : decode mM_folded.2.1 54 = .ok (.ireturn, 1) := by decide +kernel
theorem dM_folded_55 : decode mM_folded.2.1 55 = .ok (.iload 4, 2) := by decide +kernel
theorem dM_folded_57 : decode mM_folded.2.1 57 = .ok (.iconst 4, 1) := by decide +kernel
theorem dM_folded_58 : decode mM_folded.2.1 58 = .ok (.if_icmp .ne 7, 3) := by decide +kernel
theorem dM_folded_61 : decode mM_folded.2.1 61 = .ok (.iload_n 2, 1) := by decide +kernel
theorem dM_folded_62 : decode mM_folded.2.1 62 = .ok (.iload_n 3, 1) := by decide +kernel
theorem dM_folded_63 : decode mM_folded.2.1 63 = .ok (.imul, 1) := by decide +kernel
theorem dM_folded_64 : decode mM_folded.2.1 64 = .ok (.ireturn, 1) := by decide +kernel
theorem dM_folded_65 : decode mM_folded.2.1 65 = .ok (.iload 4, 2) := by decide +kernel
theorem dM_folded_67 : decode mM_folded.2.1 67 = .ok (.iconst 5, 1) := by decide +kernel
theorem dM_folded_68 : decode mM_folded.2.1 68 = .ok (.if_icmp .ne 14, 3) := by decide +kernel
theorem dM_folded_71 : decode mM_folded.2.1 71 = .ok (.iload_n 2, 1) := by decide +kernel
theorem dM_folded_72 : decode mM_folded.2.1 72 = .ok (.iload_n 3, 1) := by decide +kernel
theorem dM_folded_73 : decode mM_folded.2.1 73 = .ok (.if_icmp .le 7, 3) := by decide +kernel
theorem dM_folded_76 : decode mM_folded.2.1 76 = .ok (.iload_n 2, 1) := by decide +kernel
theorem dM_folded_77 : decode mM_folded.2.1 77 = .ok (.goto 4, 3) := by decide +kernel
theorem dM_folded_80 : decode mM_folded.2.1 80 = .ok (.iload_n 3, 1) := by decide +kernel
theorem dM_folded_81 : decode mM_folded.2.1 81 = .ok (.ireturn, 1) := by decide +kernel
theorem dM_folded_82 : decode mM_folded.2.1 82 = .ok (.iload 4, 2) := by decide +kernel
theorem dM_folded_84 : decode mM_folded.2.1 84 = .ok (.bipush 6, 2) := by decide +kernel
theorem dM_folded_86 : decode mM_folded.2.1 86 = .ok (.if_icmp .ne 6, 3) := by decide +kernel
theorem dM_folded_89 : decode mM_folded.2.1 89 = .ok (.iload_n 2, 1) := by decide +kernel
theorem dM_folded_90 : decode mM_folded.2.1 90 = .ok (.ineg, 1) := by decide +kernel
theorem dM_folded_91 : decode mM_folded.2.1 91 = .ok (.ireturn, 1) := by decide +kernel
theorem dM_folded_92 : decode mM_folded.2.1 92 = .ok (.iload 4, 2) := by decide +kernel
theorem dM_folded_94 : decode mM_folded.2.1 94 = .ok (.bipush 8, 2) := by decide +kernel
theorem dM_folded_96 : decode mM_folded.2.1 96 = .ok (.if_icmp .ne 19, 3) := by decide +kernel
theorem dM_folded_99 : decode mM_folded.2.1 99 = .ok (.iload_n 2, 1) := by decide +kernel
theorem dM_folded_100 : decode mM_folded.2.1 100 = .ok (.iload_n 3, 1) := by decide +kernel
theorem dM_folded_101 : decode mM_folded.2.1 101 = .ok (.imul, 1) := by decide +kernel
theorem dM_folded_102 : decode mM_folded.2.1 102 = .ok (.aload_n 0, 1) := by decide +kernel
theorem dM_folded_103 : decode mM_folded.2.1 103 = .ok (.getfield 28, 3) := by decide +kernel
theorem dM_folded_106 : decode mM_folded.2.1 106 = .ok (.aload_n 0, 1) := by decide +kernel
theorem dM_folded_107 : decode mM_folded.2.1 107 = .ok (.getfield 13, 3) := by decide +kernel
theorem dM_folded_110 : decode mM_folded.2.1 110 = .ok (.iload_n 1, 1) := by decide +kernel
theorem dM_folded_111 : decode mM_folded.2.1 111 = .ok (.iaload, 1) := by decide +kernel
theorem dM_folded_112 : decode mM_folded.2.1 112 = .ok (.iaload, 1) := by decide +kernel
theorem dM_folded_113 : decode mM_folded.2.1 113 = .ok (.imul, 1) := by decide +kernel
theorem dM_folded_114 : decode mM_folded.2.1 114 = .ok (.ireturn, 1) := by decide +kernel
theorem dM_folded_115 : decode mM_folded.2.1 115 = .ok (.iload 4, 2) := by decide +kernel
theorem dM_folded_117 : decode mM_folded.2.1 117 = .ok (.bipush 9, 2) := by decide +kernel
theorem dM_folded_119 : decode mM_folded.2.1 119 = .ok (.if_icmp .ne 40, 3) := by decide +kernel
theorem dM_folded_122 : decode mM_folded.2.1 122 = .ok (.iload_n 2, 1) := by decide +kernel
theorem dM_folded_123 : decode mM_folded.2.1 123 = .ok (.aload_n 0, 1) := by decide +kernel
theorem dM_folded_124 : decode mM_folded.2.1 124 = .ok (.getfield 19, 3) := by decide +kernel
theorem dM_folded_127 : decode mM_folded.2.1 127 = .ok (.iload_n 1, 1) := by decide +kernel
theorem dM_folded_128 : decode mM_folded.2.1 128 = .ok (.iaload, 1) := by decide +kernel
theorem dM_folded_129 : decode mM_folded.2.1 129 = .ok (.ifCond .ne 17, 3) := by decide +kernel
theorem dM_folded_132 : decode mM_folded.2.1 132 = .ok (.aload_n 0, 1) := by decide +kernel
theorem dM_folded_133 : decode mM_folded.2.1 133 = .ok (.getfield 25, 3) := by decide +kernel
theorem dM_folded_136 : decode mM_folded.2.1 136 = .ok (.aload_n 0, 1) := by decide +kernel
theorem dM_folded_137 : decode mM_folded.2.1 137 = .ok (.getfield 13, 3) := by decide +kernel
theorem dM_folded_140 : decode mM_folded.2.1 140 = .ok (.iload_n 1, 1) := by decide +kernel
theorem dM_folded_141 : decode mM_folded.2.1 141 = .ok (.iaload, 1) := by decide +kernel
theorem dM_folded_142 : decode mM_folded.2.1 142 = .ok (.iaload, 1) := by decide +kernel
theorem dM_folded_143 : decode mM_folded.2.1 143 = .ok (.goto 14, 3) := by decide +kernel
theorem dM_folded_146 : decode mM_folded.2.1 146 = .ok (.aload_n 0, 1) := by decide +kernel
theorem dM_folded_147 : decode mM_folded.2.1 147 = .ok (.getfield 28, 3) := by decide +kernel
theorem dM_folded_150 : decode mM_folded.2.1 150 = .ok (.aload_n 0, 1) := by decide +kernel
theorem dM_folded_151 : decode mM_folded.2.1 151 = .ok (.getfield 13, 3) := by decide +kernel
theorem dM_folded_154 : decode mM_folded.2.1 154 = .ok (.iload_n 1, 1) := by decide +kernel
theorem dM_folded_155 : decode mM_folded.2.1 155 = .ok (.iaload, 1) := by decide +kernel
theorem dM_folded_156 : decode mM_folded.2.1 156 = .ok (.iaload, 1) := by decide +kernel
theorem dM_folded_157 : decode mM_folded.2.1 157 = .ok (.imul, 1) := by decide +kernel
theorem dM_folded_158 : decode mM_folded.2.1 158 = .ok (.ireturn, 1) := by decide +kernel
theorem dM_folded_159 : decode mM_folded.2.1 159 = .ok (.iload_n 2, 1) := by decide +kernel
theorem dM_folded_160 : decode mM_folded.2.1 160 = .ok (.ireturn, 1) := by decide +kernel
theorem dM_rule_0 : decode mM_rule.2.1 0 = .ok (.aload_n 0, 1) := by decide +kernel
theorem dM_rule_1 : decode mM_rule.2.1 1 = .ok (.getfield 13, 3) := by decide +kernel
theorem dM_rule_4 : decode mM_rule.2.1 4 = .ok (.iload_n 1, 1) := by decide +kernel
theorem dM_rule_5 : decode mM_rule.2.1 5 = .ok (.iaload, 1) := by decide +kernel
theorem dM_rule_6 : decode mM_rule.2.1 6 = .ok (.istore_n 2, 1) := by decide +kernel
theorem dM_rule_7 : decode mM_rule.2.1 7 = .ok (.aload_n 0, 1) := by decide +kernel
theorem dM_rule_8 : decode mM_rule.2.1 8 = .ok (.getfield 16, 3) := by decide +kernel
theorem dM_rule_11 : decode mM_rule.2.1 11 = .ok (.iload_n 1, 1) := by decide +kernel
theorem dM_rule_12 : decode mM_rule.2.1 12 = .ok (.iaload, 1) := by decide +kernel
theorem dM_rule_13 : decode mM_rule.2.1 13 = .ok (.istore_n 3, 1) := by decide +kernel
theorem dM_rule_14 : decode mM_rule.2.1 14 = .ok (.aload_n 0, 1) := by decide +kernel
theorem dM_rule_15 : decode mM_rule.2.1 15 = .ok (.getfield 7, 3) := by decide +kernel
theorem dM_rule_18 : decode mM_rule.2.1 18 = .ok (.iload_n 1, 1) := by decide +kernel
theorem dM_rule_19 : decode mM_rule.2.1 19 = .ok (.iaload, 1) := by decide +kernel
theorem dM_rule_20 : decode mM_rule.2.1 20 = .ok (.istore 4, 2) := by decide +kernel
theorem dM_rule_22 : decode mM_rule.2.1 22 = .ok (.iload_n 2, 1) := by decide +kernel
theorem dM_rule_23 : decode mM_rule.2.1 23 = .ok (.ifCond .ge 5, 3) := by decide +kernel
theorem dM_rule_26 : decode mM_rule.2.1 26 = .ok (.iconst 0, 1) := by decide +kernel
theorem dM_rule_27 : decode mM_rule.2.1 27 = .ok (.ireturn, 1) := by decide +kernel
theorem dM_rule_28 : decode mM_rule.2.1 28 = .ok (.aload_n 0, 1) := by decide +kernel
theorem dM_rule_29 : decode mM_rule.2.1 29 = .ok (.getfield 7, 3) := by decide +kernel
theorem dM_rule_32 : decode mM_rule.2.1 32 = .ok (.iload_n 2, 1) := by decide +kernel
theorem dM_rule_33 : decode mM_rule.2.1 33 = .ok (.iaload, 1) := by decide +kernel
theorem dM_rule_34 : decode mM_rule.2.1 34 = .ok (.iconst 1, 1) := by decide +kernel
theorem dM_rule_35 : decode mM_rule.2.1 35 = .ok (.if_icmp .ne 29, 3) := by decide +kernel
theorem dM_rule_38 : decode mM_rule.2.1 38 = .ok (.iload_n 3, 1) := by decide +kernel
theorem dM_rule_39 : decode mM_rule.2.1 39 = .ok (.ifCond .lt 13, 3) := by decide +kernel
theorem dM_rule_42 : decode mM_rule.2.1 42 = .ok (.aload_n 0, 1) := by decide +kernel
theorem dM_rule_43 : decode mM_rule.2.1 43 = .ok (.getfield 7, 3) := by decide +kernel
theorem dM_rule_46 : decode mM_rule.2.1 46 = .ok (.iload_n 3, 1) := by decide +kernel
theorem dM_rule_47 : decode mM_rule.2.1 47 = .ok (.iaload, 1) := by decide +kernel
theorem dM_rule_48 : decode mM_rule.2.1 48 = .ok (.iconst 1, 1) := by decide +kernel
theorem dM_rule_49 : decode mM_rule.2.1 49 = .ok (.if_icmp .ne 15, 3) := by decide +kernel
theorem dM_rule_52 : decode mM_rule.2.1 52 = .ok (.aload_n 0, 1) := by decide +kernel
theorem dM_rule_53 : decode mM_rule.2.1 53 = .ok (.iload_n 1, 1) := by decide +kernel
theorem dM_rule_54 : decode mM_rule.2.1 54 = .ok (.aload_n 0, 1) := by decide +kernel
theorem dM_rule_55 : decode mM_rule.2.1 55 = .ok (.iload_n 1, 1) := by decide +kernel
theorem dM_rule_56 : decode mM_rule.2.1 56 = .ok (.invokevirtual 76, 3) := by decide +kernel
theorem dM_rule_59 : decode mM_rule.2.1 59 = .ok (.invokevirtual 80, 3) := by decide +kernel
theorem dM_rule_62 : decode mM_rule.2.1 62 = .ok (.iconst 1, 1) := by decide +kernel
theorem dM_rule_63 : decode mM_rule.2.1 63 = .ok (.ireturn, 1) := by decide +kernel
theorem dM_rule_64 : decode mM_rule.2.1 64 = .ok (.iload 4, 2) := by decide +kernel
theorem dM_rule_66 : decode mM_rule.2.1 66 = .ok (.iconst 3, 1) := by decide +kernel
theorem dM_rule_67 : decode mM_rule.2.1 67 = .ok (.if_icmp .eq 9, 3) := by decide +kernel
theorem dM_rule_70 : decode mM_rule.2.1 70 = .ok (.iload 4, 2) := by decide +kernel
theorem dM_rule_72 : decode mM_rule.2.1 72 = .ok (.iconst 4, 1) := by decide +kernel
theorem dM_rule_73 : decode mM_rule.2.1 73 = .ok (.if_icmp .ne 46, 3) := by decide +kernel
theorem dM_rule_76 : decode mM_rule.2.1 76 = .ok (.iload 4, 2) := by decide +kernel
theorem dM_rule_78 : decode mM_rule.2.1 78 = .ok (.iconst 3, 1) := by decide +kernel
theorem dM_rule_79 : decode mM_rule.2.1 79 = .ok (.isub, 1) := by decide +kernel
theorem dM_rule_80 : decode mM_rule.2.1 80 = .ok (.istore 5, 2) := by decide +kernel
theorem dM_rule_82 : decode mM_rule.2.1 82 = .ok (.aload_n 0, 1) := by decide +kernel
theorem dM_rule_83 : decode mM_rule.2.1 83 = .ok (.iload_n 2, 1) := by decide +kernel
theorem dM_rule_84 : decode mM_rule.2.1 84 = .ok (.iload 5, 2) := by decide +kernel
theorem dM_rule_86 : decode mM_rule.2.1 86 = .ok (.invokevirtual 84, 3) := by decide +kernel
theorem dM_rule_89 : decode mM_rule.2.1 89 = .ok (.ifCond .eq 13, 3) := by decide +kernel
theorem dM_rule_92 : decode mM_rule.2.1 92 = .ok (.aload_n 0, 1) := by decide +kernel
theorem dM_rule_93 : decode mM_rule.2.1 93 = .ok (.getfield 35, 3) := by decide +kernel
theorem dM_rule_96 : decode mM_rule.2.1 96 = .ok (.iload_n 1, 1) := by decide +kernel
theorem dM_rule_97 : decode mM_rule.2.1 97 = .ok (.iload_n 3, 1) := by decide +kernel
theorem dM_rule_98 : decode mM_rule.2.1 98 = .ok (.iastore, 1) := by decide +kernel
theorem dM_rule_99 : decode mM_rule.2.1 99 = .ok (.goto 20, 3) := by decide +kernel
theorem dM_rule_102 : decode mM_rule.2.1 102 = .ok (.aload_n 0, 1) := by decide +kernel
theorem dM_rule_103 : decode mM_rule.2.1 103 = .ok (.iload_n 3, 1) := by decide +kernel
theorem dM_rule_104 : decode mM_rule.2.1 104 = .ok (.iload 5, 2) := by decide +kernel
theorem dM_rule_106 : decode mM_rule.2.1 106 = .ok (.invokevirtual 84, 3) := by decide +kernel
theorem dM_rule_109 : decode mM_rule.2.1 109 = .ok (.ifCond .eq 10, 3) := by decide +kernel
theorem dM_rule_112 : decode mM_rule.2.1 112 = .ok (.aload_n 0, 1) := by decide +kernel
theorem dM_rule_113 : decode mM_rule.2.1 113 = .ok (.getfield 35, 3) := by decide +kernel
theorem dM_rule_116 : decode mM_rule.2.1 116 = .ok (.iload_n 1, 1) := by decide +kernel
theorem dM_rule_117 : decode mM_rule.2.1 117 = .ok (.iload_n 2, 1) := by decide +kernel
theorem dM_rule_118 : decode mM_rule.2.1 118 = .ok (.iastore, 1) := by decide +kernel
theorem dM_rule_119 : decode mM_rule.2.1 119 = .ok (.iload 4, 2) := by decide +kernel
theorem dM_rule_121 : decode mM_rule.2.1 121 = .ok (.bipush 10, 2) := by decide +kernel
theorem dM_rule_123 : decode mM_rule.2.1 123 = .ok (.if_icmp .lt 19, 3) := by decide +kernel
theorem dM_rule_126 : decode mM_rule.2.1 126 = .ok (.aload_n 0, 1) := by decide +kernel
theorem dM_rule_127 : decode mM_rule.2.1 127 = .ok (.iload_n 1, 1) := by decide +kernel
theorem dM_rule_128 : decode mM_rule.2.1 128 = .ok (.iload_n 2, 1) := by decide +kernel
theorem dM_rule_129 : decode mM_rule.2.1 129 = .ok (.invokevirtual 88, 3) := by decide +kernel
theorem dM_rule_132 : decode mM_rule.2.1 132 = .ok (.ifCond .eq 10, 3) := by decide +kernel
theorem dM_rule_135 : decode mM_rule.2.1 135 = .ok (.aload_n 0, 1) := by decide +kernel
theorem dM_rule_136 : decode mM_rule.2.1 136 = .ok (.getfield 35, 3) := by decide +kernel
theorem dM_rule_139 : decode mM_rule.2.1 139 = .ok (.iload_n 1, 1) := by decide +kernel
theorem dM_rule_140 : decode mM_rule.2.1 140 = .ok (.iload_n 2, 1) := by decide +kernel
theorem dM_rule_141 : decode mM_rule.2.1 141 = .ok (.iastore, 1) := by decide +kernel
theorem dM_rule_142 : decode mM_rule.2.1 142 = .ok (.aload_n 0, 1) := by decide +kernel
theorem dM_rule_143 : decode mM_rule.2.1 143 = .ok (.getfield 35, 3) := by decide +kernel
theorem dM_rule_146 : decode mM_rule.2.1 146 = .ok (.iload_n 1, 1) := by decide +kernel
theorem dM_rule_147 : decode mM_rule.2.1 147 = .ok (.iaload, 1) := by decide +kernel
theorem dM_rule_148 : decode mM_rule.2.1 148 = .ok (.iload_n 1, 1) := by decide +kernel
theorem dM_rule_149 : decode mM_rule.2.1 149 = .ok (.if_icmp .eq 5, 3) := by decide +kernel
theorem dM_rule_152 : decode mM_rule.2.1 152 = .ok (.iconst 2, 1) := by decide +kernel
theorem dM_rule_153 : decode mM_rule.2.1 153 = .ok (.ireturn, 1) := by decide +kernel
theorem dM_rule_154 : decode mM_rule.2.1 154 = .ok (.iload 4, 2) := by decide +kernel
theorem dM_rule_156 : decode mM_rule.2.1 156 = .ok (.iconst 4, 1) := by decide +kernel
theorem dM_rule_157 : decode mM_rule.2.1 157 = .ok (.if_icmp .ne 29, 3) := by decide +kernel
theorem dM_rule_160 : decode mM_rule.2.1 160 = .ok (.aload_n 0, 1) := by decide +kernel
theorem dM_rule_161 : decode mM_rule.2.1 161 = .ok (.iload_n 2, 1) := by decide +kernel
theorem dM_rule_162 : decode mM_rule.2.1 162 = .ok (.iconst 0, 1) := by decide +kernel
theorem dM_rule_163 : decode mM_rule.2.1 163 = .ok (.invokevirtual 84, 3) := by decide +kernel
theorem dM_rule_166 : decode mM_rule.2.1 166 = .ok (.ifCond .ne 12, 3) := by decide +kernel
theorem dM_rule_169 : decode mM_rule.2.1 169 = .ok (.aload_n 0, 1) := by decide +kernel
theorem dM_rule_170 : decode mM_rule.2.1 170 = .ok (.iload_n 3, 1) := by decide +kernel
theorem dM_rule_171 : decode mM_rule.2.1 171 = .ok (.iconst 0, 1) := by decide +kernel
theorem dM_rule_172 : decode mM_rule.2.1 172 = .ok (.invokevirtual 84, 3) := by decide +kernel
theorem dM_rule_175 : decode mM_rule.2.1 175 = .ok (.ifCond .eq 11, 3) := by decide +kernel
theorem dM_rule_178 : decode mM_rule.2.1 178 = .ok (.aload_n 0, 1) := by decide +kernel
theorem dM_rule_179 : decode mM_rule.2.1 179 = .ok (.iload_n 1, 1) := by decide +kernel
theorem dM_rule_180 : decode mM_rule.2.1 180 = .ok (.iconst 0, 1) := by decide +kernel
theorem dM_rule_181 : decode mM_rule.2.1 181 = .ok (.invokevirtual 80, 3) := by decide +kernel
theorem dM_rule_184 : decode mM_rule.2.1 184 = .ok (.iconst 3, 1) := by decide +kernel
theorem dM_rule_185 : decode mM_rule.2.1 185 = .ok (.ireturn, 1) := by decide +kernel
theorem dM_rule_186 : decode mM_rule.2.1 186 = .ok (.iload 4, 2) := by decide +kernel
theorem dM_rule_188 : decode mM_rule.2.1 188 = .ok (.iconst 5, 1) := by decide +kernel
theorem dM_rule_189 : decode mM_rule.2.1 189 = .ok (.if_icmp .ne 17, 3) := by decide +kernel
theorem dM_rule_192 : decode mM_rule.2.1 192 = .ok (.iload_n 2, 1) := by decide +kernel
theorem dM_rule_193 : decode mM_rule.2.1 193 = .ok (.iload_n 3, 1) := by decide +kernel
theorem dM_rule_194 : decode mM_rule.2.1 194 = .ok (.if_icmp .ne 12, 3) := by decide +kernel
theorem dM_rule_197 : decode mM_rule.2.1 197 = .ok (.aload_n 0, 1) := by decide +kernel
theorem dM_rule_198 : decode mM_rule.2.1 198 = .ok (.getfield 35, 3) := by decide +kernel
theorem dM_rule_201 : decode mM_rule.2.1 201 = .ok (.iload_n 1, 1) := by decide +kernel
theorem dM_rule_202 : decode mM_rule.2.1 202 = .ok (.iload_n 2, 1) := by decide +kernel
theorem dM_rule_203 : decode mM_rule.2.1 203 = .ok (.iastore, 1) := by decide +kernel
theorem dM_rule_204 : decode mM_rule.2.1 204 = .ok (.iconst 4, 1) := by decide +kernel
theorem dM_rule_205 : decode mM_rule.2.1 205 = .ok (.ireturn, 1) := by decide +kernel
theorem dM_rule_206 : decode mM_rule.2.1 206 = .ok (.iload 4, 2) := by decide +kernel
theorem dM_rule_208 : decode mM_rule.2.1 208 = .ok (.aload_n 0, 1) := by decide +kernel
theorem dM_rule_209 : decode mM_rule.2.1 209 = .ok (.getfield 7, 3) := by decide +kernel
theorem dM_rule_212 : decode mM_rule.2.1 212 = .ok (.iload_n 2, 1) := by decide +kernel
theorem dM_rule_213 : decode mM_rule.2.1 213 = .ok (.iaload, 1) := by decide +kernel
theorem dM_rule_214 : decode mM_rule.2.1 214 = .ok (.if_icmp .ne 24, 3) := by decide +kernel
theorem dM_rule_217 : decode mM_rule.2.1 217 = .ok (.iload 4, 2) := by decide +kernel
theorem dM_rule_219 : decode mM_rule.2.1 219 = .ok (.bipush 6, 2) := by decide +kernel
theorem dM_rule_221 : decode mM_rule.2.1 221 = .ok (.if_icmp .eq 19, 3) := by decide +kernel
theorem dM_rule_224 : decode mM_rule.2.1 224 = .ok (.iload 4, 2) := by decide +kernel
theorem dM_rule_226 : decode mM_rule.2.1 226 = .ok (.bipush 7, 2) := by decide +kernel
theorem dM_rule_228 : decode mM_rule.2.1 228 = .ok (.if_icmp .eq 12, 3) := by decide +kernel
theorem dM_rule_231 : decode mM_rule.2.1 231 = .ok (.iload 4, 2) := by decide +kernel
theorem dM_rule_233 : decode mM_rule.2.1 233 = .ok (.bipush 11, 2) := by decide +kernel
theorem dM_rule_235 : decode mM_rule.2.1 235 = .ok (.if_icmp .eq 5, 3) := by decide +kernel
theorem dM_rule_238 : decode mM_rule.2.1 238 = .ok (.iconst 0, 1) := by decide +kernel
theorem dM_rule_239 : decode mM_rule.2.1 239 = .ok (.ireturn, 1) := by decide +kernel
theorem dM_rule_240 : decode mM_rule.2.1 240 = .ok (.aload_n 0, 1) := by decide +kernel
theorem dM_rule_241 : decode mM_rule.2.1 241 = .ok (.getfield 13, 3) := by decide +kernel
theorem dM_rule_244 : decode mM_rule.2.1 244 = .ok (.iload_n 2, 1) := by decide +kernel
theorem dM_rule_245 : decode mM_rule.2.1 245 = .ok (.iaload, 1) := by decide +kernel
theorem dM_rule_246 : decode mM_rule.2.1 246 = .ok (.istore 5, 2) := by decide +kernel
theorem dM_rule_248 : decode mM_rule.2.1 248 = .ok (.iload 4, 2) := by decide +kernel
theorem dM_rule_250 : decode mM_rule.2.1 250 = .ok (.bipush 11, 2) := by decide +kernel
theorem dM_rule_252 : decode mM_rule.2.1 252 = .ok (.if_icmp .ne 13, 3) := by decide +kernel
theorem dM_rule_255 : decode mM_rule.2.1 255 = .ok (.aload_n 0, 1) := by decide +kernel
theorem dM_rule_256 : decode mM_rule.2.1 256 = .ok (.iload_n 1, 1) := by decide +kernel
theorem dM_rule_257 : decode mM_rule.2.1 257 = .ok (.iload 5, 2) := by decide +kernel
theorem dM_rule_259 : decode mM_rule.2.1 259 = .ok (.invokevirtual 88, 3) := by decide +kernel
theorem dM_rule_262 : decode mM_rule.2.1 262 = .ok (.ifCond .eq 14, 3) := by decide +kernel
theorem dM_rule_265 : decode mM_rule.2.1 265 = .ok (.aload_n 0, 1) := by decide +kernel
theorem dM_rule_266 : decode mM_rule.2.1 266 = .ok (.getfield 35, 3) := by decide +kernel
theorem dM_rule_269 : decode mM_rule.2.1 269 = .ok (.iload_n 1, 1) := by decide +kernel
theorem dM_rule_270 : decode mM_rule.2.1 270 = .ok (.iload 5, 2) := by decide +kernel
theorem dM_rule_272 : decode mM_rule.2.1 272 = .ok (.iastore, 1) := by decide +kernel
theorem dM_rule_273 : decode mM_rule.2.1 273 = .ok (.goto 11, 3) := by decide +kernel
theorem dM_rule_276 : decode mM_rule.2.1 276 = .ok (.aload_n 0, 1) := by decide +kernel
theorem dM_rule_277 : decode mM_rule.2.1 277 = .ok (.getfield 13, 3) := by decide +kernel
theorem dM_rule_280 : decode mM_rule.2.1 280 = .ok (.iload_n 1, 1) := by decide +kernel
theorem dM_rule_281 : decode mM_rule.2.1 281 = .ok (.iload 5, 2) := by decide +kernel
theorem dM_rule_283 : decode mM_rule.2.1 283 = .ok (.iastore, 1) := by decide +kernel
theorem dM_rule_284 : decode mM_rule.2.1 284 = .ok (.iconst 5, 1) := by decide +kernel
theorem dM_rule_285 : decode mM_rule.2.1 285 = .ok (.ireturn, 1) := by decide +kernel
theorem dM_alike_0 : decode mM_alike.2.1 0 = .ok (.aload_n 0, 1) := by decide +kernel
theorem dM_alike_1 : decode mM_alike.2.1 1 = .ok (.getfield 7, 3) := by decide +kernel
theorem dM_alike_4 : decode mM_alike.2.1 4 = .ok (.iload_n 1, 1) := by decide +kernel
theorem dM_alike_5 : decode mM_alike.2.1 5 = .ok (.iaload, 1) := by decide +kernel
theorem dM_alike_6 : decode mM_alike.2.1 6 = .ok (.aload_n 0, 1) := by decide +kernel
theorem dM_alike_7 : decode mM_alike.2.1 7 = .ok (.getfield 7, 3) := by decide +kernel
theorem dM_alike_10 : decode mM_alike.2.1 10 = .ok (.iload_n 2, 1) := by decide +kernel
theorem dM_alike_11 : decode mM_alike.2.1 11 = .ok (.iaload, 1) := by decide +kernel
theorem dM_alike_12 : decode mM_alike.2.1 12 = .ok (.if_icmp .ne 76, 3) := by decide +kernel
theorem dM_alike_15 : decode mM_alike.2.1 15 = .ok (.aload_n 0, 1) := by decide +kernel
theorem dM_alike_16 : decode mM_alike.2.1 16 = .ok (.getfield 13, 3) := by decide +kernel
theorem dM_alike_19 : decode mM_alike.2.1 19 = .ok (.iload_n 1, 1) := by decide +kernel
theorem dM_alike_20 : decode mM_alike.2.1 20 = .ok (.iaload, 1) := by decide +kernel
theorem dM_alike_21 : decode mM_alike.2.1 21 = .ok (.aload_n 0, 1) := by decide +kernel
theorem dM_alike_22 : decode mM_alike.2.1 22 = .ok (.getfield 13, 3) := by decide +kernel
theorem dM_alike_25 : decode mM_alike.2.1 25 = .ok (.iload_n 2, 1) := by decide +kernel
theorem dM_alike_26 : decode mM_alike.2.1 26 = .ok (.iaload, 1) := by decide +kernel
theorem dM_alike_27 : decode mM_alike.2.1 27 = .ok (.if_icmp .ne 61, 3) := by decide +kernel
theorem dM_alike_30 : decode mM_alike.2.1 30 = .ok (.aload_n 0, 1) := by decide +kernel
theorem dM_alike_31 : decode mM_alike.2.1 31 = .ok (.getfield 16, 3) := by decide +kernel
theorem dM_alike_34 : decode mM_alike.2.1 34 = .ok (.iload_n 1, 1) := by decide +kernel
theorem dM_alike_35 : decode mM_alike.2.1 35 = .ok (.iaload, 1) := by decide +kernel
theorem dM_alike_36 : decode mM_alike.2.1 36 = .ok (.aload_n 0, 1) := by decide +kernel
theorem dM_alike_37 : decode mM_alike.2.1 37 = .ok (.getfield 16, 3) := by decide +kernel
theorem dM_alike_40 : decode mM_alike.2.1 40 = .ok (.iload_n 2, 1) := by decide +kernel
theorem dM_alike_41 : decode mM_alike.2.1 41 = .ok (.iaload, 1) := by decide +kernel
theorem dM_alike_42 : decode mM_alike.2.1 42 = .ok (.if_icmp .ne 46, 3) := by decide +kernel
theorem dM_alike_45 : decode mM_alike.2.1 45 = .ok (.aload_n 0, 1) := by decide +kernel
theorem dM_alike_46 : decode mM_alike.2.1 46 = .ok (.getfield 19, 3) := by decide +kernel
theorem dM_alike_49 : decode mM_alike.2.1 49 = .ok (.iload_n 1, 1) := by decide +kernel
theorem dM_alike_50 : decode mM_alike.2.1 50 = .ok (.iaload, 1) := by decide +kernel
theorem dM_alike_51 : decode mM_alike.2.1 51 = .ok (.aload_n 0, 1) := by decide +kernel
theorem dM_alike_52 : decode mM_alike.2.1 52 = .ok (.getfield 19, 3) := by decide +kernel
theorem dM_alike_55 : decode mM_alike.2.1 55 = .ok (.iload_n 2, 1) := by decide +kernel
theorem dM_alike_56 : decode mM_alike.2.1 56 = .ok (.iaload, 1) := by decide +kernel
theorem dM_alike_57 : decode mM_alike.2.1 57 = .ok (.if_icmp .ne 31, 3) := by decide +kernel
theorem dM_alike_60 : decode mM_alike.2.1 60 = .ok (.aload_n 0, 1) := by decide +kernel
theorem dM_alike_61 : decode mM_alike.2.1 61 = .ok (.getfield 22, 3) := by decide +kernel
theorem dM_alike_64 : decode mM_alike.2.1 64 = .ok (.iload_n 1, 1) := by decide +kernel
theorem dM_alike_65 : decode mM_alike.2.1 65 = .ok (.iaload, 1) := by decide +kernel
theorem dM_alike_66 : decode mM_alike.2.1 66 = .ok (.aload_n 0, 1) := by decide +kernel
theorem dM_alike_67 : decode mM_alike.2.1 67 = .ok (.getfield 22, 3) := by decide +kernel
theorem dM_alike_70 : decode mM_alike.2.1 70 = .ok (.iload_n 2, 1) := by decide +kernel
theorem dM_alike_71 : decode mM_alike.2.1 71 = .ok (.iaload, 1) := by decide +kernel
theorem dM_alike_72 : decode mM_alike.2.1 72 = .ok (.if_icmp .ne 16, 3) := by decide +kernel
theorem dM_alike_75 : decode mM_alike.2.1 75 = .ok (.aload_n 0, 1) := by decide +kernel
theorem dM_alike_76 : decode mM_alike.2.1 76 = .ok (.iload_n 1, 1) := by decide +kernel
theorem dM_alike_77 : decode mM_alike.2.1 77 = .ok (.iload_n 2, 1) := by decide +kernel
theorem dM_alike_78 : decode mM_alike.2.1 78 = .ok (.invokevirtual 88, 3) := by decide +kernel
theorem dM_alike_81 : decode mM_alike.2.1 81 = .ok (.ifCond .eq 7, 3) := by decide +kernel
theorem dM_alike_84 : decode mM_alike.2.1 84 = .ok (.iconst 1, 1) := by decide +kernel
theorem dM_alike_85 : decode mM_alike.2.1 85 = .ok (.goto 4, 3) := by decide +kernel
theorem dM_alike_88 : decode mM_alike.2.1 88 = .ok (.iconst 0, 1) := by decide +kernel
theorem dM_alike_89 : decode mM_alike.2.1 89 = .ok (.ireturn, 1) := by decide +kernel
theorem dM_simplifyOne_0 : decode mM_simplifyOne.2.1 0 = .ok (.aload_n 0, 1) := by decide +kernel
theorem dM_simplifyOne_1 : decode mM_simplifyOne.2.1 1 = .ok (.getfield 13, 3) := by decide +kernel
theorem dM_simplifyOne_4 : decode mM_simplifyOne.2.1 4 = .ok (.iload_n 1, 1) := by decide +kernel
theorem dM_simplifyOne_5 : decode mM_simplifyOne.2.1 5 = .ok (.iaload, 1) := by decide +kernel
theorem dM_simplifyOne_6 : decode mM_simplifyOne.2.1 6 = .ok (.ifCond .lt 20, 3) := by decide +kernel
theorem dM_simplifyOne_9 : decode mM_simplifyOne.2.1 9 = .ok (.aload_n 0, 1) := by decide +kernel
theorem dM_simplifyOne_10 : decode mM_simplifyOne.2.1 10 = .ok (.getfield 13, 3) := by decide +kernel
theorem dM_simplifyOne_13 : decode mM_simplifyOne.2.1 13 = .ok (.iload_n 1, 1) := by decide +kernel
theorem dM_simplifyOne_14 : decode mM_simplifyOne.2.1 14 = .ok (.aload_n 0, 1) := by decide +kernel
theorem dM_simplifyOne_15 : decode mM_simplifyOne.2.1 15 = .ok (.getfield 35, 3) := by decide +kernel
theorem dM_simplifyOne_18 : decode mM_simplifyOne.2.1 18 = .ok (.aload_n 0, 1) := by decide +kernel
theorem dM_simplifyOne_19 : decode mM_simplifyOne.2.1 19 = .ok (.getfield 13, 3) := by decide +kernel
theorem dM_simplifyOne_22 : decode mM_simplifyOne.2.1 22 = .ok (.iload_n 1, 1) := by decide +kernel
theorem dM_simplifyOne_23 : decode mM_simplifyOne.2.1 23 = .ok (.iaload, 1) := by decide +kernel
theorem dM_simplifyOne_24 : decode mM_simplifyOne.2.1 24 = .ok (.iaload, 1) := by decide +kernel
theorem dM_simplifyOne_25 : decode mM_simplifyOne.2.1 25 = .ok (.iastore, 1) := by decide +kernel
theorem dM_simplifyOne_26 : decode mM_simplifyOne.2.1 26 = .ok (.aload_n 0, 1) := by decide +kernel
theorem dM_simplifyOne_27 : decode mM_simplifyOne.2.1 27 = .ok (.getfield 16, 3) := by decide +kernel
theorem dM_simplifyOne_30 : decode mM_simplifyOne.2.1 30 = .ok (.iload_n 1, 1) := by decide +kernel
theorem dM_simplifyOne_31 : decode mM_simplifyOne.2.1 31 = .ok (.iaload, 1) := by decide +kernel
theorem dM_simplifyOne_32 : decode mM_simplifyOne.2.1 32 = .ok (.ifCond .lt 20, 3) := by decide +kernel
theorem dM_simplifyOne_35 : decode mM_simplifyOne.2.1 35 = .ok (.aload_n 0, 1) := by decide +kernel
theorem dM_simplifyOne_36 : decode mM_simplifyOne.2.1 36 = .ok (.getfield 16, 3) := by decide +kernel
theorem dM_simplifyOne_39 : decode mM_simplifyOne.2.1 39 = .ok (.iload_n 1, 1) := by decide +kernel
theorem dM_simplifyOne_40 : decode mM_simplifyOne.2.1 40 = .ok (.aload_n 0, 1) := by decide +kernel
theorem dM_simplifyOne_41 : decode mM_simplifyOne.2.1 41 = .ok (.getfield 35, 3) := by decide +kernel
theorem dM_simplifyOne_44 : decode mM_simplifyOne.2.1 44 = .ok (.aload_n 0, 1) := by decide +kernel
theorem dM_simplifyOne_45 : decode mM_simplifyOne.2.1 45 = .ok (.getfield 16, 3) := by decide +kernel
theorem dM_simplifyOne_48 : decode mM_simplifyOne.2.1 48 = .ok (.iload_n 1, 1) := by decide +kernel
theorem dM_simplifyOne_49 : decode mM_simplifyOne.2.1 49 = .ok (.iaload, 1) := by decide +kernel
theorem dM_simplifyOne_50 : decode mM_simplifyOne.2.1 50 = .ok (.iaload, 1) := by decide +kernel
theorem dM_simplifyOne_51 : decode mM_simplifyOne.2.1 51 = .ok (.iastore, 1) := by decide +kernel
theorem dM_simplifyOne_52 : decode mM_simplifyOne.2.1 52 = .ok (.aload_n 0, 1) := by decide +kernel
theorem dM_simplifyOne_53 : decode mM_simplifyOne.2.1 53 = .ok (.getfield 7, 3) := by decide +kernel
theorem dM_simplifyOne_56 : decode mM_simplifyOne.2.1 56 = .ok (.iload_n 1, 1) := by decide +kernel
theorem dM_simplifyOne_57 : decode mM_simplifyOne.2.1 57 = .ok (.iaload, 1) := by decide +kernel
theorem dM_simplifyOne_58 : decode mM_simplifyOne.2.1 58 = .ok (.iconst 3, 1) := by decide +kernel
theorem dM_simplifyOne_59 : decode mM_simplifyOne.2.1 59 = .ok (.if_icmp .lt 54, 3) := by decide +kernel
theorem dM_simplifyOne_62 : decode mM_simplifyOne.2.1 62 = .ok (.aload_n 0, 1) := by decide +kernel
theorem dM_simplifyOne_63 : decode mM_simplifyOne.2.1 63 = .ok (.getfield 7, 3) := by decide +kernel
theorem dM_simplifyOne_66 : decode mM_simplifyOne.2.1 66 = .ok (.iload_n 1, 1) := by decide +kernel
theorem dM_simplifyOne_67 : decode mM_simplifyOne.2.1 67 = .ok (.iaload, 1) := by decide +kernel
theorem dM_simplifyOne_68 : decode mM_simplifyOne.2.1 68 = .ok (.iconst 5, 1) := by decide +kernel
theorem dM_simplifyOne_69 : decode mM_simplifyOne.2.1 69 = .ok (.if_icmp .gt 44, 3) := by decide +kernel
theorem dM_simplifyOne_72 : decode mM_simplifyOne.2.1 72 = .ok (.aload_n 0, 1) := by decide +kernel
theorem dM_simplifyOne_73 : decode mM_simplifyOne.2.1 73 = .ok (.getfield 13, 3) := by decide +kernel
theorem dM_simplifyOne_76 : decode mM_simplifyOne.2.1 76 = .ok (.iload_n 1, 1) := by decide +kernel
theorem dM_simplifyOne_77 : decode mM_simplifyOne.2.1 77 = .ok (.iaload, 1) := by decide +kernel
theorem dM_simplifyOne_78 : decode mM_simplifyOne.2.1 78 = .ok (.aload_n 0, 1) := by decide +kernel
theorem dM_simplifyOne_79 : decode mM_simplifyOne.2.1 79 = .ok (.getfield 16, 3) := by decide +kernel
theorem dM_simplifyOne_82 : decode mM_simplifyOne.2.1 82 = .ok (.iload_n 1, 1) := by decide +kernel
theorem dM_simplifyOne_83 : decode mM_simplifyOne.2.1 83 = .ok (.iaload, 1) := by decide +kernel
theorem dM_simplifyOne_84 : decode mM_simplifyOne.2.1 84 = .ok (.if_icmp .le 29, 3) := by decide +kernel
theorem dM_simplifyOne_87 : decode mM_simplifyOne.2.1 87 = .ok (.aload_n 0, 1) := by decide +kernel
theorem dM_simplifyOne_88 : decode mM_simplifyOne.2.1 88 = .ok (.getfield 13, 3) := by decide +kernel
theorem dM_simplifyOne_91 : decode mM_simplifyOne.2.1 91 = .ok (.iload_n 1, 1) := by decide +kernel
theorem dM_simplifyOne_92 : decode mM_simplifyOne.2.1 92 = .ok (.iaload, 1) := by decide +kernel
theorem dM_simplifyOne_93 : decode mM_simplifyOne.2.1 93 = .ok (.istore_n 2, 1) := by decide +kernel
theorem dM_simplifyOne_94 : decode mM_simplifyOne.2.1 94 = .ok (.aload_n 0, 1) := by decide +kernel
theorem dM_simplifyOne_95 : decode mM_simplifyOne.2.1 95 = .ok (.getfield 13, 3) := by decide +kernel
theorem dM_simplifyOne_98 : decode mM_simplifyOne.2.1 98 = .ok (.iload_n 1, 1) := by decide +kernel
theorem dM_simplifyOne_99 : decode mM_simplifyOne.2.1 99 = .ok (.aload_n 0, 1) := by decide +kernel
theorem dM_simplifyOne_100 : decode mM_simplifyOne.2.1 100 = .ok (.getfield 16, 3) := by decide +kernel
theorem dM_simplifyOne_103 : decode mM_simplifyOne.2.1 103 = .ok (.iload_n 1, 1) := by decide +kernel
theorem dM_simplifyOne_104 : decode mM_simplifyOne.2.1 104 = .ok (.iaload, 1) := by decide +kernel
theorem dM_simplifyOne_105 : decode mM_simplifyOne.2.1 105 = .ok (.iastore, 1) := by decide +kernel
theorem dM_simplifyOne_106 : decode mM_simplifyOne.2.1 106 = .ok (.aload_n 0, 1) := by decide +kernel
theorem dM_simplifyOne_107 : decode mM_simplifyOne.2.1 107 = .ok (.getfield 16, 3) := by decide +kernel
theorem dM_simplifyOne_110 : decode mM_simplifyOne.2.1 110 = .ok (.iload_n 1, 1) := by decide +kernel
theorem dM_simplifyOne_111 : decode mM_simplifyOne.2.1 111 = .ok (.iload_n 2, 1) := by decide +kernel
theorem dM_simplifyOne_112 : decode mM_simplifyOne.2.1 112 = .ok (.iastore, 1) := by decide +kernel
theorem dM_simplifyOne_113 : decode mM_simplifyOne.2.1 113 = .ok (.aload_n 0, 1) := by decide +kernel
theorem dM_simplifyOne_114 : decode mM_simplifyOne.2.1 114 = .ok (.iload_n 1, 1) := by decide +kernel
theorem dM_simplifyOne_115 : decode mM_simplifyOne.2.1 115 = .ok (.invokevirtual 91, 3) := by decide +kernel
theorem dM_simplifyOne_118 : decode mM_simplifyOne.2.1 118 = .ok (.istore_n 2, 1) := by decide +kernel
theorem dM_simplifyOne_119 : decode mM_simplifyOne.2.1 119 = .ok (.iload_n 2, 1) := by decide +kernel
theorem dM_simplifyOne_120 : decode mM_simplifyOne.2.1 120 = .ok (.ifCond .le 13, 3) := by decide +kernel
theorem dM_simplifyOne_123 : decode mM_simplifyOne.2.1 123 = .ok (.aload_n 0, 1) := by decide +kernel
theorem dM_simplifyOne_124 : decode mM_simplifyOne.2.1 124 = .ok (.getfield 47, 3) := by decide +kernel
theorem dM_simplifyOne_127 : decode mM_simplifyOne.2.1 127 = .ok (.iload_n 2, 1) := by decide +kernel
theorem dM_simplifyOne_128 : decode mM_simplifyOne.2.1 128 = .ok (.dup2, 1) := by decide +kernel
theorem dM_simplifyOne_129 : decode mM_simplifyOne.2.1 129 = .ok (.iaload, 1) := by decide +kernel
theorem dM_simplifyOne_130 : decode mM_simplifyOne.2.1 130 = .ok (.iconst 1, 1) := by decide +kernel
theorem dM_simplifyOne_131 : decode mM_simplifyOne.2.1 131 = .ok (.iadd, 1) := by decide +kernel
theorem dM_simplifyOne_132 : decode mM_simplifyOne.2.1 132 = .ok (.iastore, 1) := by decide +kernel
theorem dM_simplifyOne_133 : decode mM_simplifyOne.2.1 133 = .ok (.aload_n 0, 1) := by decide +kernel
theorem dM_simplifyOne_134 : decode mM_simplifyOne.2.1 134 = .ok (.getfield 35, 3) := by decide +kernel
theorem dM_simplifyOne_137 : decode mM_simplifyOne.2.1 137 = .ok (.iload_n 1, 1) := by decide +kernel
theorem dM_simplifyOne_138 : decode mM_simplifyOne.2.1 138 = .ok (.iaload, 1) := by decide +kernel
theorem dM_simplifyOne_139 : decode mM_simplifyOne.2.1 139 = .ok (.iload_n 1, 1) := by decide +kernel
theorem dM_simplifyOne_140 : decode mM_simplifyOne.2.1 140 = .ok (.if_icmp .eq 4, 3) := by decide +kernel
theorem dM_simplifyOne_143 : decode mM_simplifyOne.2.1 143 = .ok (.return_, 1) := by decide +kernel
theorem dM_simplifyOne_144 : decode mM_simplifyOne.2.1 144 = .ok (.iload_n 1, 1) := by decide +kernel
theorem dM_simplifyOne_145 : decode mM_simplifyOne.2.1 145 = .ok (.iconst 1, 1) := by decide +kernel
theorem dM_simplifyOne_146 : decode mM_simplifyOne.2.1 146 = .ok (.isub, 1) := by decide +kernel
theorem dM_simplifyOne_147 : decode mM_simplifyOne.2.1 147 = .ok (.istore_n 3, 1) := by decide +kernel
theorem dM_simplifyOne_148 : decode mM_simplifyOne.2.1 148 = .ok (.iload_n 3, 1) := by decide +kernel
theorem dM_simplifyOne_149 : decode mM_simplifyOne.2.1 149 = .ok (.ifCond .lt 35, 3) := by decide +kernel
theorem dM_simplifyOne_152 : decode mM_simplifyOne.2.1 152 = .ok (.aload_n 0, 1) := by decide +kernel
theorem dM_simplifyOne_153 : decode mM_simplifyOne.2.1 153 = .ok (.getfield 35, 3) := by decide +kernel
theorem dM_simplifyOne_156 : decode mM_simplifyOne.2.1 156 = .ok (.iload_n 3, 1) := by decide +kernel
theorem dM_simplifyOne_157 : decode mM_simplifyOne.2.1 157 = .ok (.iaload, 1) := by decide +kernel
theorem dM_simplifyOne_158 : decode mM_simplifyOne.2.1 158 = .ok (.iload_n 3, 1) := by decide +kernel
theorem dM_simplifyOne_159 : decode mM_simplifyOne.2.1 159 = .ok (.if_icmp .ne 19, 3) := by decide +kernel
theorem dM_simplifyOne_162 : decode mM_simplifyOne.2.1 162 = .ok (.aload_n 0, 1) := by decide +kernel
theorem dM_simplifyOne_163 : decode mM_simplifyOne.2.1 163 = .ok (.iload_n 1, 1) := by decide +kernel
theorem dM_simplifyOne_164 : decode mM_simplifyOne.2.1 164 = .ok (.iload_n 3, 1) := by decide +kernel
theorem dM_simplifyOne_165 : decode mM_simplifyOne.2.1 165 = .ok (.invokevirtual 94, 3) := by decide +kernel
theorem dM_simplifyOne_168 : decode mM_simplifyOne.2.1 168 = .ok (.ifCond .eq 10, 3) := by decide +kernel
theorem dM_simplifyOne_171 : decode mM_simplifyOne.2.1 171 = .ok (.aload_n 0, 1) := by decide +kernel
theorem dM_simplifyOne_172 : decode mM_simplifyOne.2.1 172 = .ok (.getfield 35, 3) := by decide +kernel
theorem dM_simplifyOne_175 : decode mM_simplifyOne.2.1 175 = .ok (.iload_n 1, 1) := by decide +kernel
theorem dM_simplifyOne_176 : decode mM_simplifyOne.2.1 176 = .ok (.iload_n 3, 1) := by decide +kernel
theorem dM_simplifyOne_177 : decode mM_simplifyOne.2.1 177 = .ok (.iastore, 1) := by decide +kernel
theorem dM_simplifyOne_178 : decode mM_simplifyOne.2.1 178 = .ok (.iinc 3 (-1), 3) := by decide +kernel
theorem dM_simplifyOne_181 : decode mM_simplifyOne.2.1 181 = .ok (.goto (-33), 3) := by decide +kernel
theorem dM_simplifyOne_184 : decode mM_simplifyOne.2.1 184 = .ok (.aload_n 0, 1) := by decide +kernel
theorem dM_simplifyOne_185 : decode mM_simplifyOne.2.1 185 = .ok (.getfield 35, 3) := by decide +kernel
theorem dM_simplifyOne_188 : decode mM_simplifyOne.2.1 188 = .ok (.iload_n 1, 1) := by decide +kernel
theorem dM_simplifyOne_189 : decode mM_simplifyOne.2.1 189 = .ok (.iaload, 1) := by decide +kernel
theorem dM_simplifyOne_190 : decode mM_simplifyOne.2.1 190 = .ok (.iload_n 1, 1) := by decide +kernel
theorem dM_simplifyOne_191 : decode mM_simplifyOne.2.1 191 = .ok (.if_icmp .eq 14, 3) := by decide +kernel
theorem dM_simplifyOne_194 : decode mM_simplifyOne.2.1 194 = .ok (.aload_n 0, 1) := by decide +kernel
theorem dM_simplifyOne_195 : decode mM_simplifyOne.2.1 195 = .ok (.getfield 47, 3) := by decide +kernel
theorem dM_simplifyOne_198 : decode mM_simplifyOne.2.1 198 = .ok (.bipush 6, 2) := by decide +kernel
theorem dM_simplifyOne_200 : decode mM_simplifyOne.2.1 200 = .ok (.dup2, 1) := by decide +kernel
theorem dM_simplifyOne_201 : decode mM_simplifyOne.2.1 201 = .ok (.iaload, 1) := by decide +kernel
theorem dM_simplifyOne_202 : decode mM_simplifyOne.2.1 202 = .ok (.iconst 1, 1) := by decide +kernel
theorem dM_simplifyOne_203 : decode mM_simplifyOne.2.1 203 = .ok (.iadd, 1) := by decide +kernel
theorem dM_simplifyOne_204 : decode mM_simplifyOne.2.1 204 = .ok (.iastore, 1) := by decide +kernel
theorem dM_simplifyOne_205 : decode mM_simplifyOne.2.1 205 = .ok (.return_, 1) := by decide +kernel
theorem dM_simplify_0 : decode mM_simplify.2.1 0 = .ok (.aload_n 0, 1) := by decide +kernel
theorem dM_simplify_1 : decode mM_simplify.2.1 1 = .ok (.getfield 54, 3) := by decide +kernel
theorem dM_simplify_4 : decode mM_simplify.2.1 4 = .ok (.ifCond .eq 6, 3) := by decide +kernel
theorem dM_simplify_7 : decode mM_simplify.2.1 7 = .ok (.bipush (-4), 2) := by decide +kernel
theorem dM_simplify_9 : decode mM_simplify.2.1 9 = .ok (.ireturn, 1) := by decide +kernel
theorem dM_simplify_10 : decode mM_simplify.2.1 10 = .ok (.aload_n 0, 1) := by decide +kernel
theorem dM_simplify_11 : decode mM_simplify.2.1 11 = .ok (.invokevirtual 58, 3) := by decide +kernel
theorem dM_simplify_14 : decode mM_simplify.2.1 14 = .ok (.iconst 0, 1) := by decide +kernel
theorem dM_simplify_15 : decode mM_simplify.2.1 15 = .ok (.istore_n 1, 1) := by decide +kernel
theorem dM_simplify_16 : decode mM_simplify.2.1 16 = .ok (.iload_n 1, 1) := by decide +kernel
theorem dM_simplify_17 : decode mM_simplify.2.1 17 = .ok (.bipush 7, 2) := by decide +kernel
theorem dM_simplify_19 : decode mM_simplify.2.1 19 = .ok (.if_icmp .ge 16, 3) := by decide +kernel
theorem dM_simplify_22 : decode mM_simplify.2.1 22 = .ok (.aload_n 0, 1) := by decide +kernel
theorem dM_simplify_23 : decode mM_simplify.2.1 23 = .ok (.getfield 47, 3) := by decide +kernel
theorem dM_simplify_26 : decode mM_simplify.2.1 26 = .ok (.iload_n 1, 1) := by decide +kernel
theorem dM_simplify_27 : decode mM_simplify.2.1 27 = .ok (.iconst 0, 1) := by decide +kernel
theorem dM_simplify_28 : decode mM_simplify.2.1 28 = .ok (.iastore, 1) := by decide +kernel
theorem dM_simplify_29 : decode mM_simplify.2.1 29 = .ok (.iinc 1 1, 3) := by decide +kernel
theorem dM_simplify_32 : decode mM_simplify.2.1 32 = .ok (.goto (-16), 3) := by decide +kernel
theorem dM_simplify_35 : decode mM_simplify.2.1 35 = .ok (.iconst 0, 1) := by decide +kernel
theorem dM_simplify_36 : decode mM_simplify.2.1 36 = .ok (.istore_n 1, 1) := by decide +kernel
theorem dM_simplify_37 : decode mM_simplify.2.1 37 = .ok (.iconst 0, 1) := by decide +kernel
theorem dM_simplify_38 : decode mM_simplify.2.1 38 = .ok (.istore_n 2, 1) := by decide +kernel
theorem dM_simplify_39 : decode mM_simplify.2.1 39 = .ok (.iload_n 2, 1) := by decide +kernel
theorem dM_simplify_40 : decode mM_simplify.2.1 40 = .ok (.aload_n 0, 1) := by decide +kernel
theorem dM_simplify_41 : decode mM_simplify.2.1 41 = .ok (.getfield 50, 3) := by decide +kernel
theorem dM_simplify_44 : decode mM_simplify.2.1 44 = .ok (.if_icmp .ge 27, 3) := by decide +kernel
theorem dM_simplify_47 : decode mM_simplify.2.1 47 = .ok (.aload_n 0, 1) := by decide +kernel
theorem dM_simplify_48 : decode mM_simplify.2.1 48 = .ok (.iload_n 2, 1) := by decide +kernel
theorem dM_simplify_49 : decode mM_simplify.2.1 49 = .ok (.invokevirtual 97, 3) := by decide +kernel
theorem dM_simplify_52 : decode mM_simplify.2.1 52 = .ok (.aload_n 0, 1) := by decide +kernel
theorem dM_simplify_53 : decode mM_simplify.2.1 53 = .ok (.getfield 35, 3) := by decide +kernel
theorem dM_simplify_56 : decode mM_simplify.2.1 56 = .ok (.iload_n 2, 1) := by decide +kernel
theorem dM_simplify_57 : decode mM_simplify.2.1 57 = .ok (.iaload, 1) := by decide +kernel
theorem dM_simplify_58 : decode mM_simplify.2.1 58 = .ok (.iload_n 2, 1) := by decide +kernel
theorem dM_simplify_59 : decode mM_simplify.2.1 59 = .ok (.if_icmp .ne 6, 3) := by decide +kernel
theorem dM_simplify_62 : decode mM_simplify.2.1 62 = .ok (.iinc 1 1, 3) := by decide +kernel
theorem dM_simplify_65 : decode mM_simplify.2.1 65 = .ok (.iinc 2 1, 3) := by decide +kernel
theorem dM_simplify_68 : decode mM_simplify.2.1 68 = .ok (.goto (-29), 3) := by decide +kernel
theorem dM_simplify_71 : decode mM_simplify.2.1 71 = .ok (.aload_n 0, 1) := by decide +kernel
theorem dM_simplify_72 : decode mM_simplify.2.1 72 = .ok (.iconst 1, 1) := by decide +kernel
theorem dM_simplify_73 : decode mM_simplify.2.1 73 = .ok (.putfield 54, 3) := by decide +kernel
theorem dM_simplify_76 : decode mM_simplify.2.1 76 = .ok (.iload_n 1, 1) := by decide +kernel
theorem dM_simplify_77 : decode mM_simplify.2.1 77 = .ok (.ireturn, 1) := by decide +kernel
theorem dM_isLive_0 : decode mM_isLive.2.1 0 = .ok (.iconst 0, 1) := by decide +kernel
theorem dM_isLive_1 : decode mM_isLive.2.1 1 = .ok (.istore_n 2, 1) := by decide +kernel
theorem dM_isLive_2 : decode mM_isLive.2.1 2 = .ok (.iconst 0, 1) := by decide +kernel
theorem dM_isLive_3 : decode mM_isLive.2.1 3 = .ok (.istore_n 3, 1) := by decide +kernel
theorem dM_isLive_4 : decode mM_isLive.2.1 4 = .ok (.iload_n 3, 1) := by decide +kernel
theorem dM_isLive_5 : decode mM_isLive.2.1 5 = .ok (.aload_n 0, 1) := by decide +kernel
theorem dM_isLive_6 : decode mM_isLive.2.1 6 = .ok (.getfield 50, 3) := by decide +kernel
theorem dM_isLive_9 : decode mM_isLive.2.1 9 = .ok (.if_icmp .ge 29, 3) := by decide +kernel
theorem dM_isLive_12 : decode mM_isLive.2.1 12 = .ok (.aload_n 0, 1) := by decide +kernel
theorem dM_isLive_13 : decode mM_isLive.2.1 13 = .ok (.getfield 31, 3) := by decide +kernel
theorem dM_isLive_16 : decode mM_isLive.2.1 16 = .ok (.iload_n 3, 1) := by decide +kernel
theorem dM_isLive_17 : decode mM_isLive.2.1 17 = .ok (.baload, 1) := by decide +kernel
theorem dM_isLive_18 : decode mM_isLive.2.1 18 = .ok (.ifCond .eq 14, 3) := by decide +kernel
theorem dM_isLive_21 : decode mM_isLive.2.1 21 = .ok (.iload_n 2, 1) := by decide +kernel
theorem dM_isLive_22 : decode mM_isLive.2.1 22 = .ok (.iconst 1, 1) := by decide +kernel
theorem dM_isLive_23 : decode mM_isLive.2.1 23 = .ok (.aload_n 0, 1) := by decide +kernel
theorem dM_isLive_24 : decode mM_isLive.2.1 24 = .ok (.getfield 35, 3) := by decide +kernel
theorem dM_isLive_27 : decode mM_isLive.2.1 27 = .ok (.iload_n 3, 1) := by decide +kernel
theorem dM_isLive_28 : decode mM_isLive.2.1 28 = .ok (.iaload, 1) := by decide +kernel
theorem dM_isLive_29 : decode mM_isLive.2.1 29 = .ok (.ishl, 1) := by decide +kernel
theorem dM_isLive_30 : decode mM_isLive.2.1 30 = .ok (.ior, 1) := by decide +kernel
theorem dM_isLive_31 : decode mM_isLive.2.1 31 = .ok (.istore_n 2, 1) := by decide +kernel
theorem dM_isLive_32 : decode mM_isLive.2.1 32 = .ok (.iinc 3 1, 3) := by decide +kernel
theorem dM_isLive_35 : decode mM_isLive.2.1 35 = .ok (.goto (-31), 3) := by decide +kernel
theorem dM_isLive_38 : decode mM_isLive.2.1 38 = .ok (.aload_n 0, 1) := by decide +kernel
theorem dM_isLive_39 : decode mM_isLive.2.1 39 = .ok (.getfield 50, 3) := by decide +kernel
theorem dM_isLive_42 : decode mM_isLive.2.1 42 = .ok (.iconst 1, 1) := by decide +kernel
theorem dM_isLive_43 : decode mM_isLive.2.1 43 = .ok (.isub, 1) := by decide +kernel
theorem dM_isLive_44 : decode mM_isLive.2.1 44 = .ok (.istore_n 3, 1) := by decide +kernel
theorem dM_isLive_45 : decode mM_isLive.2.1 45 = .ok (.iload_n 3, 1) := by decide +kernel
theorem dM_isLive_46 : decode mM_isLive.2.1 46 = .ok (.iload_n 1, 1) := by decide +kernel
theorem dM_isLive_47 : decode mM_isLive.2.1 47 = .ok (.if_icmp .le 65, 3) := by decide +kernel
theorem dM_isLive_50 : decode mM_isLive.2.1 50 = .ok (.iload_n 2, 1) := by decide +kernel
theorem dM_isLive_51 : decode mM_isLive.2.1 51 = .ok (.iload_n 3, 1) := by decide +kernel
theorem dM_isLive_52 : decode mM_isLive.2.1 52 = .ok (.ishr, 1) := by decide +kernel
theorem dM_isLive_53 : decode mM_isLive.2.1 53 = .ok (.iconst 1, 1) := by decide +kernel
theorem dM_isLive_54 : decode mM_isLive.2.1 54 = .ok (.iand, 1) := by decide +kernel
theorem dM_isLive_55 : decode mM_isLive.2.1 55 = .ok (.ifCond .eq 23, 3) := by decide +kernel
theorem dM_isLive_58 : decode mM_isLive.2.1 58 = .ok (.aload_n 0, 1) := by decide +kernel
theorem dM_isLive_59 : decode mM_isLive.2.1 59 = .ok (.getfield 13, 3) := by decide +kernel
theorem dM_isLive_62 : decode mM_isLive.2.1 62 = .ok (.iload_n 3, 1) := by decide +kernel
theorem dM_isLive_63 : decode mM_isLive.2.1 63 = .ok (.iaload, 1) := by decide +kernel
theorem dM_isLive_64 : decode mM_isLive.2.1 64 = .ok (.ifCond .lt 14, 3) := by decide +kernel
theorem dM_isLive_67 : decode mM_isLive.2.1 67 = .ok (.iload_n 2, 1) := by decide +kernel
theorem dM_isLive_68 : decode mM_isLive.2.1 68 = .ok (.iconst 1, 1) := by decide +kernel
theorem dM_isLive_69 : decode mM_isLive.2.1 69 = .ok (.aload_n 0, 1) := by decide +kernel
theorem dM_isLive_70 : decode mM_isLive.2.1 70 = .ok (.getfield 13, 3) := by decide +kernel
theorem dM_isLive_73 : decode mM_isLive.2.1 73 = .ok (.iload_n 3, 1) := by decide +kernel
theorem dM_isLive_74 : decode mM_isLive.2.1 74 = .ok (.iaload, 1) := by decide +kernel
theorem dM_isLive_75 : decode mM_isLive.2.1 75 = .ok (.ishl, 1) := by decide +kernel
theorem dM_isLive_76 : decode mM_isLive.2.1 76 = .ok (.ior, 1) := by decide +kernel
theorem dM_isLive_77 : decode mM_isLive.2.1 77 = .ok (.istore_n 2, 1) := by decide +kernel
theorem dM_isLive_78 : decode mM_isLive.2.1 78 = .ok (.iload_n 2, 1) := by decide +kernel
theorem dM_isLive_79 : decode mM_isLive.2.1 79 = .ok (.iload_n 3, 1) := by decide +kernel
theorem dM_isLive_80 : decode mM_isLive.2.1 80 = .ok (.ishr, 1) := by decide +kernel
theorem dM_isLive_81 : decode mM_isLive.2.1 81 = .ok (.iconst 1, 1) := by decide +kernel
theorem dM_isLive_82 : decode mM_isLive.2.1 82 = .ok (.iand, 1) := by decide +kernel
theorem dM_isLive_83 : decode mM_isLive.2.1 83 = .ok (.ifCond .eq 23, 3) := by decide +kernel
theorem dM_isLive_86 : decode mM_isLive.2.1 86 = .ok (.aload_n 0, 1) := by decide +kernel
theorem dM_isLive_87 : decode mM_isLive.2.1 87 = .ok (.getfield 16, 3) := by decide +kernel
theorem dM_isLive_90 : decode mM_isLive.2.1 90 = .ok (.iload_n 3, 1) := by decide +kernel
theorem dM_isLive_91 : decode mM_isLive.2.1 91 = .ok (.iaload, 1) := by decide +kernel
theorem dM_isLive_92 : decode mM_isLive.2.1 92 = .ok (.ifCond .lt 14, 3) := by decide +kernel
theorem dM_isLive_95 : decode mM_isLive.2.1 95 = .ok (.iload_n 2, 1) := by decide +kernel
theorem dM_isLive_96 : decode mM_isLive.2.1 96 = .ok (.iconst 1, 1) := by decide +kernel
theorem dM_isLive_97 : decode mM_isLive.2.1 97 = .ok (.aload_n 0, 1) := by decide +kernel
theorem dM_isLive_98 : decode mM_isLive.2.1 98 = .ok (.getfield 16, 3) := by decide +kernel
theorem dM_isLive_101 : decode mM_isLive.2.1 101 = .ok (.iload_n 3, 1) := by decide +kernel
theorem dM_isLive_102 : decode mM_isLive.2.1 102 = .ok (.iaload, 1) := by decide +kernel
theorem dM_isLive_103 : decode mM_isLive.2.1 103 = .ok (.ishl, 1) := by decide +kernel
theorem dM_isLive_104 : decode mM_isLive.2.1 104 = .ok (.ior, 1) := by decide +kernel
theorem dM_isLive_105 : decode mM_isLive.2.1 105 = .ok (.istore_n 2, 1) := by decide +kernel
theorem dM_isLive_106 : decode mM_isLive.2.1 106 = .ok (.iinc 3 (-1), 3) := by decide +kernel
theorem dM_isLive_109 : decode mM_isLive.2.1 109 = .ok (.goto (-64), 3) := by decide +kernel
theorem dM_isLive_112 : decode mM_isLive.2.1 112 = .ok (.iload_n 2, 1) := by decide +kernel
theorem dM_isLive_113 : decode mM_isLive.2.1 113 = .ok (.iload_n 1, 1) := by decide +kernel
theorem dM_isLive_114 : decode mM_isLive.2.1 114 = .ok (.ishr, 1) := by decide +kernel
theorem dM_isLive_115 : decode mM_isLive.2.1 115 = .ok (.iconst 1, 1) := by decide +kernel
theorem dM_isLive_116 : decode mM_isLive.2.1 116 = .ok (.iand, 1) := by decide +kernel
theorem dM_isLive_117 : decode mM_isLive.2.1 117 = .ok (.ifCond .eq 7, 3) := by decide +kernel
theorem dM_isLive_120 : decode mM_isLive.2.1 120 = .ok (.iconst 1, 1) := by decide +kernel
theorem dM_isLive_121 : decode mM_isLive.2.1 121 = .ok (.goto 4, 3) := by decide +kernel
theorem dM_isLive_124 : decode mM_isLive.2.1 124 = .ok (.iconst 0, 1) := by decide +kernel
theorem dM_isLive_125 : decode mM_isLive.2.1 125 = .ok (.ireturn, 1) := by decide +kernel
theorem dM_workOf_0 : decode mM_workOf.2.1 0 = .ok (.aload_n 0, 1) := by decide +kernel
theorem dM_workOf_1 : decode mM_workOf.2.1 1 = .ok (.getfield 7, 3) := by decide +kernel
theorem dM_workOf_4 : decode mM_workOf.2.1 4 = .ok (.iload_n 1, 1) := by decide +kernel
theorem dM_workOf_5 : decode mM_workOf.2.1 5 = .ok (.iaload, 1) := by decide +kernel
theorem dM_workOf_6 : decode mM_workOf.2.1 6 = .ok (.iconst 3, 1) := by decide +kernel
theorem dM_workOf_7 : decode mM_workOf.2.1 7 = .ok (.if_icmp .ge 5, 3) := by decide +kernel
theorem dM_workOf_10 : decode mM_workOf.2.1 10 = .ok (.iconst 0, 1) := by decide +kernel
theorem dM_workOf_11 : decode mM_workOf.2.1 11 = .ok (.ireturn, 1) := by decide +kernel
theorem dM_workOf_12 : decode mM_workOf.2.1 12 = .ok (.aload_n 0, 1) := by decide +kernel
theorem dM_workOf_13 : decode mM_workOf.2.1 13 = .ok (.getfield 7, 3) := by decide +kernel
theorem dM_workOf_16 : decode mM_workOf.2.1 16 = .ok (.iload_n 1, 1) := by decide +kernel
theorem dM_workOf_17 : decode mM_workOf.2.1 17 = .ok (.iaload, 1) := by decide +kernel
theorem dM_workOf_18 : decode mM_workOf.2.1 18 = .ok (.bipush 9, 2) := by decide +kernel
theorem dM_workOf_20 : decode mM_workOf.2.1 20 = .ok (.if_icmp .ne 27, 3) := by decide +kernel
theorem dM_workOf_23 : decode mM_workOf.2.1 23 = .ok (.aload_n 0, 1) := by decide +kernel
theorem dM_workOf_24 : decode mM_workOf.2.1 24 = .ok (.getfield 25, 3) := by decide +kernel
theorem dM_workOf_27 : decode mM_workOf.2.1 27 = .ok (.aload_n 0, 1) := by decide +kernel
theorem dM_workOf_28 : decode mM_workOf.2.1 28 = .ok (.getfield 13, 3) := by decide +kernel
theorem dM_workOf_31 : decode mM_workOf.2.1 31 = .ok (.iload_n 1, 1) := by decide +kernel
theorem dM_workOf_32 : decode mM_workOf.2.1 32 = .ok (.iaload, 1) := by decide +kernel
theorem dM_workOf_33 : decode mM_workOf.2.1 33 = .ok (.iaload, 1) := by decide +kernel
theorem dM_workOf_34 : decode mM_workOf.2.1 34 = .ok (.aload_n 0, 1) := by decide +kernel
theorem dM_workOf_35 : decode mM_workOf.2.1 35 = .ok (.getfield 28, 3) := by decide +kernel
theorem dM_workOf_38 : decode mM_workOf.2.1 38 = .ok (.aload_n 0, 1) := by decide +kernel
theorem dM_workOf_39 : decode mM_workOf.2.1 39 = .ok (.getfield 13, 3) := by decide +kernel
theorem dM_workOf_42 : decode mM_workOf.2.1 42 = .ok (.iload_n 1, 1) := by decide +kernel
theorem dM_workOf_43 : decode mM_workOf.2.1 43 = .ok (.iaload, 1) := by decide +kernel
theorem dM_workOf_44 : decode mM_workOf.2.1 44 = .ok (.iaload, 1) := by decide +kernel
theorem dM_workOf_45 : decode mM_workOf.2.1 45 = .ok (.imul, 1) := by decide +kernel
theorem dM_workOf_46 : decode mM_workOf.2.1 46 = .ok (.ireturn, 1) := by decide +kernel
theorem dM_workOf_47 : decode mM_workOf.2.1 47 = .ok (.aload_n 0, 1) := by decide +kernel
theorem dM_workOf_48 : decode mM_workOf.2.1 48 = .ok (.getfield 25, 3) := by decide +kernel
theorem dM_workOf_51 : decode mM_workOf.2.1 51 = .ok (.iload_n 1, 1) := by decide +kernel
theorem dM_workOf_52 : decode mM_workOf.2.1 52 = .ok (.iaload, 1) := by decide +kernel
theorem dM_workOf_53 : decode mM_workOf.2.1 53 = .ok (.aload_n 0, 1) := by decide +kernel
theorem dM_workOf_54 : decode mM_workOf.2.1 54 = .ok (.getfield 28, 3) := by decide +kernel
theorem dM_workOf_57 : decode mM_workOf.2.1 57 = .ok (.iload_n 1, 1) := by decide +kernel
theorem dM_workOf_58 : decode mM_workOf.2.1 58 = .ok (.iaload, 1) := by decide +kernel
theorem dM_workOf_59 : decode mM_workOf.2.1 59 = .ok (.imul, 1) := by decide +kernel
theorem dM_workOf_60 : decode mM_workOf.2.1 60 = .ok (.aload_n 0, 1) := by decide +kernel
theorem dM_workOf_61 : decode mM_workOf.2.1 61 = .ok (.getfield 7, 3) := by decide +kernel
theorem dM_workOf_64 : decode mM_workOf.2.1 64 = .ok (.iload_n 1, 1) := by decide +kernel
theorem dM_workOf_65 : decode mM_workOf.2.1 65 = .ok (.iaload, 1) := by decide +kernel
theorem dM_workOf_66 : decode mM_workOf.2.1 66 = .ok (.bipush 8, 2) := by decide +kernel
theorem dM_workOf_68 : decode mM_workOf.2.1 68 = .ok (.if_icmp .ne 17, 3) := by decide +kernel
theorem dM_workOf_71 : decode mM_workOf.2.1 71 = .ok (.aload_n 0, 1) := by decide +kernel
theorem dM_workOf_72 : decode mM_workOf.2.1 72 = .ok (.getfield 28, 3) := by decide +kernel
theorem dM_workOf_75 : decode mM_workOf.2.1 75 = .ok (.aload_n 0, 1) := by decide +kernel
theorem dM_workOf_76 : decode mM_workOf.2.1 76 = .ok (.getfield 13, 3) := by decide +kernel
theorem dM_workOf_79 : decode mM_workOf.2.1 79 = .ok (.iload_n 1, 1) := by decide +kernel
theorem dM_workOf_80 : decode mM_workOf.2.1 80 = .ok (.iaload, 1) := by decide +kernel
theorem dM_workOf_81 : decode mM_workOf.2.1 81 = .ok (.iaload, 1) := by decide +kernel
theorem dM_workOf_82 : decode mM_workOf.2.1 82 = .ok (.goto 4, 3) := by decide +kernel
theorem dM_workOf_85 : decode mM_workOf.2.1 85 = .ok (.iconst 1, 1) := by decide +kernel
theorem dM_workOf_86 : decode mM_workOf.2.1 86 = .ok (.imul, 1) := by decide +kernel
theorem dM_workOf_87 : decode mM_workOf.2.1 87 = .ok (.ireturn, 1) := by decide +kernel
theorem dM_at_0 : decode mM_at.2.1 0 = .ok (.aload_n 0, 1) := by decide +kernel
theorem dM_at_1 : decode mM_at.2.1 1 = .ok (.getfield 41, 3) := by decide +kernel
theorem dM_at_4 : decode mM_at.2.1 4 = .ok (.iload_n 1, 1) := by decide +kernel
theorem dM_at_5 : decode mM_at.2.1 5 = .ok (.bipush 16, 2) := by decide +kernel
theorem dM_at_7 : decode mM_at.2.1 7 = .ok (.imul, 1) := by decide +kernel
theorem dM_at_8 : decode mM_at.2.1 8 = .ok (.iload_n 2, 1) := by decide +kernel
theorem dM_at_9 : decode mM_at.2.1 9 = .ok (.iconst 4, 1) := by decide +kernel
theorem dM_at_10 : decode mM_at.2.1 10 = .ok (.imul, 1) := by decide +kernel
theorem dM_at_11 : decode mM_at.2.1 11 = .ok (.iadd, 1) := by decide +kernel
theorem dM_at_12 : decode mM_at.2.1 12 = .ok (.iload_n 3, 1) := by decide +kernel
theorem dM_at_13 : decode mM_at.2.1 13 = .ok (.iadd, 1) := by decide +kernel
theorem dM_at_14 : decode mM_at.2.1 14 = .ok (.iaload, 1) := by decide +kernel
theorem dM_at_15 : decode mM_at.2.1 15 = .ok (.ireturn, 1) := by decide +kernel
theorem dM_made_0 : decode mM_made.2.1 0 = .ok (.aload_n 0, 1) := by decide +kernel
theorem dM_made_1 : decode mM_made.2.1 1 = .ok (.getfield 13, 3) := by decide +kernel
theorem dM_made_4 : decode mM_made.2.1 4 = .ok (.iload_n 1, 1) := by decide +kernel
theorem dM_made_5 : decode mM_made.2.1 5 = .ok (.iaload, 1) := by decide +kernel
theorem dM_made_6 : decode mM_made.2.1 6 = .ok (.istore 4, 2) := by decide +kernel
theorem dM_made_8 : decode mM_made.2.1 8 = .ok (.aload_n 0, 1) := by decide +kernel
theorem dM_made_9 : decode mM_made.2.1 9 = .ok (.getfield 16, 3) := by decide +kernel
theorem dM_made_12 : decode mM_made.2.1 12 = .ok (.iload_n 1, 1) := by decide +kernel
theorem dM_made_13 : decode mM_made.2.1 13 = .ok (.iaload, 1) := by decide +kernel
theorem dM_made_14 : decode mM_made.2.1 14 = .ok (.istore 5, 2) := by decide +kernel
theorem dM_made_16 : decode mM_made.2.1 16 = .ok (.aload_n 0, 1) := by decide +kernel
theorem dM_made_17 : decode mM_made.2.1 17 = .ok (.getfield 7, 3) := by decide +kernel
theorem dM_made_20 : decode mM_made.2.1 20 = .ok (.iload_n 1, 1) := by decide +kernel
theorem dM_made_21 : decode mM_made.2.1 21 = .ok (.iaload, 1) := by decide +kernel
theorem dM_made_22 : decode mM_made.2.1 22 = .ok (.tableswitch 297 0 11 #[62, 83, 90, 105, 123, 141, 180, 190, 199, 207, 215, 254], 62) := by decide +kernel
theorem dM_made_84 : decode mM_made.2.1 84 = .ok (.aload_n 0, 1) := by decide +kernel
theorem dM_made_85 : decode mM_made.2.1 85 = .ok (.getfield 38, 3) := by decide +kernel
theorem dM_made_88 : decode mM_made.2.1 88 = .ok (.aload_n 0, 1) := by decide +kernel
theorem dM_made_89 : decode mM_made.2.1 89 = .ok (.getfield 19, 3) := by decide +kernel
theorem dM_made_92 : decode mM_made.2.1 92 = .ok (.iload_n 1, 1) := by decide +kernel
theorem dM_made_93 : decode mM_made.2.1 93 = .ok (.iaload, 1) := by decide +kernel
theorem dM_made_94 : decode mM_made.2.1 94 = .ok (.bipush 16, 2) := by decide +kernel
theorem dM_made_96 : decode mM_made.2.1 96 = .ok (.imul, 1) := by decide +kernel
theorem dM_made_97 : decode mM_made.2.1 97 = .ok (.iload_n 2, 1) := by decide +kernel
theorem dM_made_98 : decode mM_made.2.1 98 = .ok (.iconst 4, 1) := by decide +kernel
theorem dM_made_99 : decode mM_made.2.1 99 = .ok (.imul, 1) := by decide +kernel
theorem dM_made_100 : decode mM_made.2.1 100 = .ok (.iadd, 1) := by decide +kernel
theorem dM_made_101 : decode mM_made.2.1 101 = .ok (.iload_n 3, 1) := by decide +kernel
theorem dM_made_102 : decode mM_made.2.1 102 = .ok (.iadd, 1) := by decide +kernel
theorem dM_made_103 : decode mM_made.2.1 103 = .ok (.iaload, 1) := by decide +kernel
theorem dM_made_104 : decode mM_made.2.1 104 = .ok (.ireturn, 1) := by decide +kernel
theorem dM_made_105 : decode mM_made.2.1 105 = .ok (.aload_n 0, 1) := by decide +kernel
theorem dM_made_106 : decode mM_made.2.1 106 = .ok (.getfield 19, 3) := by decide +kernel
theorem dM_made_109 : decode mM_made.2.1 109 = .ok (.iload_n 1, 1) := by decide +kernel
theorem dM_made_110 : decode mM_made.2.1 110 = .ok (.iaload, 1) := by decide +kernel
theorem dM_made_111 : decode mM_made.2.1 111 = .ok (.ireturn, 1) := by decide +kernel
theorem dM_made_112 : decode mM_made.2.1 112 = .ok (.aload_n 0, 1) := by decide +kernel
theorem dM_made_113 : decode mM_made.2.1 113 = .ok (.getfield 19, 3) := by decide +kernel
theorem dM_made_116 : decode mM_made.2.1 116 = .ok (.iload_n 1, 1) := by decide +kernel
theorem dM_made_117 : decode mM_made.2.1 117 = .ok (.iaload, 1) := by decide +kernel
theorem dM_made_118 : decode mM_made.2.1 118 = .ok (.ifCond .ne 7, 3) := by decide +kernel
theorem dM_made_121 : decode mM_made.2.1 121 = .ok (.iload_n 2, 1) := by decide +kernel
theorem dM_made_122 : decode mM_made.2.1 122 = .ok (.goto 4, 3) := by decide +kernel
theorem dM_made_125 : decode mM_made.2.1 125 = .ok (.iload_n 3, 1) := by decide +kernel
theorem dM_made_126 : decode mM_made.2.1 126 = .ok (.ireturn, 1) := by decide +kernel
theorem dM_made_127 : decode mM_made.2.1 127 = .ok (.aload_n 0, 1) := by decide +kernel
theorem dM_made_128 : decode mM_made.2.1 128 = .ok (.iload 4, 2) := by decide +kernel
theorem dM_made_130 : decode mM_made.2.1 130 = .ok (.iload_n 2, 1) := by decide +kernel
theorem dM_made_131 : decode mM_made.2.1 131 = .ok (.iload_n 3, 1) := by decide +kernel
theorem dM_made_132 : decode mM_made.2.1 132 = .ok (.invokevirtual 101, 3) := by decide +kernel
theorem dM_made_135 : decode mM_made.2.1 135 = .ok (.aload_n 0, 1) := by decide +kernel
theorem dM_made_136 : decode mM_made.2.1 136 = .ok (.iload 5, 2) := by decide +kernel
theorem dM_made_138 : decode mM_made.2.1 138 = .ok (.iload_n 2, 1) := by decide +kernel
theorem dM_made_139 : decode mM_made.2.1 139 = .ok (.iload_n 3, 1) := by decide +kernel
theorem dM_made_140 : decode mM_made.2.1 140 = .ok (.invokevirtual 101, 3) := by decide +kernel
theorem dM_made_143 : decode mM_made.2.1 143 = .ok (.iadd, 1) := by decide +kernel
theorem dM_made_144 : decode mM_made.2.1 144 = .ok (.ireturn, 1) := by decide +kernel
theorem dM_made_145 : decode mM_made.2.1 145 = .ok (.aload_n 0, 1) := by decide +kernel
theorem dM_made_146 : decode mM_made.2.1 146 = .ok (.iload 4, 2) := by decide +kernel
theorem dM_made_148 : decode mM_made.2.1 148 = .ok (.iload_n 2, 1) := by decide +kernel
theorem dM_made_149 : decode mM_made.2.1 149 = .ok (.iload_n 3, 1) := by decide +kernel
theorem dM_made_150 : decode mM_made.2.1 150 = .ok (.invokevirtual 101, 3) := by decide +kernel
theorem dM_made_153 : decode mM_made.2.1 153 = .ok (.aload_n 0, 1) := by decide +kernel
theorem dM_made_154 : decode mM_made.2.1 154 = .ok (.iload 5, 2) := by decide +kernel
theorem dM_made_156 : decode mM_made.2.1 156 = .ok (.iload_n 2, 1) := by decide +kernel
theorem dM_made_157 : decode mM_made.2.1 157 = .ok (.iload_n 3, 1) := by decide +kernel
theorem dM_made_158 : decode mM_made.2.1 158 = .ok (.invokevirtual 101, 3) := by decide +kernel
theorem dM_made_161 : decode mM_made.2.1 161 = .ok (.imul, 1) := by decide +kernel
theorem dM_made_162 : decode mM_made.2.1 162 = .ok (.ireturn, 1) := by decide +kernel
theorem dM_made_163 : decode mM_made.2.1 163 = .ok (.aload_n 0, 1) := by decide +kernel
theorem dM_made_164 : decode mM_made.2.1 164 = .ok (.iload 4, 2) := by decide +kernel
theorem dM_made_166 : decode mM_made.2.1 166 = .ok (.iload_n 2, 1) := by decide +kernel
theorem dM_made_167 : decode mM_made.2.1 167 = .ok (.iload_n 3, 1) := by decide +kernel
theorem dM_made_168 : decode mM_made.2.1 168 = .ok (.invokevirtual 101, 3) := by decide +kernel
theorem dM_made_171 : decode mM_made.2.1 171 = .ok (.aload_n 0, 1) := by decide +kernel
theorem dM_made_172 : decode mM_made.2.1 172 = .ok (.iload 5, 2) := by decide +kernel
theorem dM_made_174 : decode mM_made.2.1 174 = .ok (.iload_n 2, 1) := by decide +kernel
theorem dM_made_175 : decode mM_made.2.1 175 = .ok (.iload_n 3, 1) := by decide +kernel
theorem dM_made_176 : decode mM_made.2.1 176 = .ok (.invokevirtual 101, 3) := by decide +kernel
theorem dM_made_179 : decode mM_made.2.1 179 = .ok (.if_icmp .le 14, 3) := by decide +kernel
theorem dM_made_182 : decode mM_made.2.1 182 = .ok (.aload_n 0, 1) := by decide +kernel
theorem dM_made_183 : decode mM_made.2.1 183 = .ok (.iload 4, 2) := by decide +kernel
theorem dM_made_185 : decode mM_made.2.1 185 = .ok (.iload_n 2, 1) := by decide +kernel
theorem dM_made_186 : decode mM_made.2.1 186 = .ok (.iload_n 3, 1) := by decide +kernel
theorem dM_made_187 : decode mM_made.2.1 187 = .ok (.invokevirtual 101, 3) := by decide +kernel
theorem dM_made_190 : decode mM_made.2.1 190 = .ok (.goto 11, 3) := by decide +kernel
theorem dM_made_193 : decode mM_made.2.1 193 = .ok (.aload_n 0, 1) := by decide +kernel
theorem dM_made_194 : decode mM_made.2.1 194 = .ok (.iload 5, 2) := by decide +kernel
theorem dM_made_196 : decode mM_made.2.1 196 = .ok (.iload_n 2, 1) := by decide +kernel
theorem dM_made_197 : decode mM_made.2.1 197 = .ok (.iload_n 3, 1) := by decide +kernel
theorem dM_made_198 : decode mM_made.2.1 198 = .ok (.invokevirtual 101, 3) := by decide +kernel
theorem dM_made_201 : decode mM_made.2.1 201 = .ok (.ireturn, 1) := by decide +kernel
theorem dM_made_202 : decode mM_made.2.1 202 = .ok (.aload_n 0, 1) := by decide +kernel
theorem dM_made_203 : decode mM_made.2.1 203 = .ok (.iload 4, 2) := by decide +kernel
theorem dM_made_205 : decode mM_made.2.1 205 = .ok (.iload_n 2, 1) := by decide +kernel
theorem dM_made_206 : decode mM_made.2.1 206 = .ok (.iload_n 3, 1) := by decide +kernel
theorem dM_made_207 : decode mM_made.2.1 207 = .ok (.invokevirtual 101, 3) := by decide +kernel
theorem dM_made_210 : decode mM_made.2.1 210 = .ok (.ineg, 1) := by decide +kernel
theorem dM_made_211 : decode mM_made.2.1 211 = .ok (.ireturn, 1) := by decide +kernel
theorem dM_made_212 : decode mM_made.2.1 212 = .ok (.aload_n 0, 1) := by decide +kernel
theorem dM_made_213 : decode mM_made.2.1 213 = .ok (.iload 4, 2) := by decide +kernel
theorem dM_made_215 : decode mM_made.2.1 215 = .ok (.iload_n 3, 1) := by decide +kernel
theorem dM_made_216 : decode mM_made.2.1 216 = .ok (.iload_n 2, 1) := by decide +kernel
theorem dM_made_217 : decode mM_made.2.1 217 = .ok (.invokevirtual 101, 3) := by decide +kernel
theorem dM_made_220 : decode mM_made.2.1 220 = .ok (.ireturn, 1) := by decide +kernel
theorem dM_made_221 : decode mM_made.2.1 221 = .ok (.aload_n 0, 1) := by decide +kernel
theorem dM_made_222 : decode mM_made.2.1 222 = .ok (.iload_n 1, 1) := by decide +kernel
theorem dM_made_223 : decode mM_made.2.1 223 = .ok (.iload_n 2, 1) := by decide +kernel
theorem dM_made_224 : decode mM_made.2.1 224 = .ok (.iload_n 3, 1) := by decide +kernel
theorem dM_made_225 : decode mM_made.2.1 225 = .ok (.invokevirtual 105, 3) := by decide +kernel
theorem dM_made_228 : decode mM_made.2.1 228 = .ok (.ireturn, 1) := by decide +kernel
theorem dM_made_229 : decode mM_made.2.1 229 = .ok (.aload_n 0, 1) := by decide +kernel
theorem dM_made_230 : decode mM_made.2.1 230 = .ok (.iload_n 1, 1) := by decide +kernel
theorem dM_made_231 : decode mM_made.2.1 231 = .ok (.iload_n 2, 1) := by decide +kernel
theorem dM_made_232 : decode mM_made.2.1 232 = .ok (.iload_n 3, 1) := by decide +kernel
theorem dM_made_233 : decode mM_made.2.1 233 = .ok (.invokevirtual 105, 3) := by decide +kernel
theorem dM_made_236 : decode mM_made.2.1 236 = .ok (.ireturn, 1) := by decide +kernel
theorem dM_made_237 : decode mM_made.2.1 237 = .ok (.aload_n 0, 1) := by decide +kernel
theorem dM_made_238 : decode mM_made.2.1 238 = .ok (.iload 4, 2) := by decide +kernel
theorem dM_made_240 : decode mM_made.2.1 240 = .ok (.aload_n 0, 1) := by decide +kernel
theorem dM_made_241 : decode mM_made.2.1 241 = .ok (.getfield 25, 3) := by decide +kernel
theorem dM_made_244 : decode mM_made.2.1 244 = .ok (.iload 4, 2) := by decide +kernel
theorem dM_made_246 : decode mM_made.2.1 246 = .ok (.iaload, 1) := by decide +kernel
theorem dM_made_247 : decode mM_made.2.1 247 = .ok (.iconst 1, 1) := by decide +kernel
theorem dM_made_248 : decode mM_made.2.1 248 = .ok (.if_icmp .ne 7, 3) := by decide +kernel
theorem dM_made_251 : decode mM_made.2.1 251 = .ok (.iconst 0, 1) := by decide +kernel
theorem dM_made_252 : decode mM_made.2.1 252 = .ok (.goto 4, 3) := by decide +kernel
theorem dM_made_255 : decode mM_made.2.1 255 = .ok (.iload_n 2, 1) := by decide +kernel
theorem dM_made_256 : decode mM_made.2.1 256 = .ok (.aload_n 0, 1) := by decide +kernel
theorem dM_made_257 : decode mM_made.2.1 257 = .ok (.getfield 28, 3) := by decide +kernel
theorem dM_made_260 : decode mM_made.2.1 260 = .ok (.iload 4, 2) := by decide +kernel
theorem dM_made_262 : decode mM_made.2.1 262 = .ok (.iaload, 1) := by decide +kernel
theorem dM_made_263 : decode mM_made.2.1 263 = .ok (.iconst 1, 1) := by decide +kernel
theorem dM_made_264 : decode mM_made.2.1 264 = .ok (.if_icmp .ne 7, 3) := by decide +kernel
theorem dM_made_267 : decode mM_made.2.1 267 = .ok (.iconst 0, 1) := by decide +kernel
theorem dM_made_268 : decode mM_made.2.1 268 = .ok (.goto 4, 3) := by decide +kernel
theorem dM_made_271 : decode mM_made.2.1 271 = .ok (.iload_n 3, 1) := by decide +kernel
theorem dM_made_272 : decode mM_made.2.1 272 = .ok (.invokevirtual 101, 3) := by decide +kernel
theorem dM_made_275 : decode mM_made.2.1 275 = .ok (.ireturn, 1) := by decide +kernel
theorem dM_made_276 : decode mM_made.2.1 276 = .ok (.aload_n 0, 1) := by decide +kernel
theorem dM_made_277 : decode mM_made.2.1 277 = .ok (.iload 4, 2) := by decide +kernel
theorem dM_made_279 : decode mM_made.2.1 279 = .ok (.iload_n 2, 1) := by decide +kernel
theorem dM_made_280 : decode mM_made.2.1 280 = .ok (.aload_n 0, 1) := by decide +kernel
theorem dM_made_281 : decode mM_made.2.1 281 = .ok (.getfield 28, 3) := by decide +kernel
theorem dM_made_284 : decode mM_made.2.1 284 = .ok (.iload_n 1, 1) := by decide +kernel
theorem dM_made_285 : decode mM_made.2.1 285 = .ok (.iaload, 1) := by decide +kernel
theorem dM_made_286 : decode mM_made.2.1 286 = .ok (.imul, 1) := by decide +kernel
theorem dM_made_287 : decode mM_made.2.1 287 = .ok (.iload_n 3, 1) := by decide +kernel
theorem dM_made_288 : decode mM_made.2.1 288 = .ok (.iadd, 1) := by decide +kernel
theorem dM_made_289 : decode mM_made.2.1 289 = .ok (.aload_n 0, 1) := by decide +kernel
theorem dM_made_290 : decode mM_made.2.1 290 = .ok (.getfield 28, 3) := by decide +kernel
theorem dM_made_293 : decode mM_made.2.1 293 = .ok (.iload 4, 2) := by decide +kernel
theorem dM_made_295 : decode mM_made.2.1 295 = .ok (.iaload, 1) := by decide +kernel
theorem dM_made_296 : decode mM_made.2.1 296 = .ok (.idiv, 1) := by decide +kernel
theorem dM_made_297 : decode mM_made.2.1 297 = .ok (.iload_n 2, 1) := by decide +kernel
theorem dM_made_298 : decode mM_made.2.1 298 = .ok (.aload_n 0, 1) := by decide +kernel
theorem dM_made_299 : decode mM_made.2.1 299 = .ok (.getfield 28, 3) := by decide +kernel
theorem dM_made_302 : decode mM_made.2.1 302 = .ok (.iload_n 1, 1) := by decide +kernel
theorem dM_made_303 : decode mM_made.2.1 303 = .ok (.iaload, 1) := by decide +kernel
theorem dM_made_304 : decode mM_made.2.1 304 = .ok (.imul, 1) := by decide +kernel
theorem dM_made_305 : decode mM_made.2.1 305 = .ok (.iload_n 3, 1) := by decide +kernel
theorem dM_made_306 : decode mM_made.2.1 306 = .ok (.iadd, 1) := by decide +kernel
theorem dM_made_307 : decode mM_made.2.1 307 = .ok (.aload_n 0, 1) := by decide +kernel
theorem dM_made_308 : decode mM_made.2.1 308 = .ok (.getfield 28, 3) := by decide +kernel
theorem dM_made_311 : decode mM_made.2.1 311 = .ok (.iload 4, 2) := by decide +kernel
theorem dM_made_313 : decode mM_made.2.1 313 = .ok (.iaload, 1) := by decide +kernel
theorem dM_made_314 : decode mM_made.2.1 314 = .ok (.irem, 1) := by decide +kernel
theorem dM_made_315 : decode mM_made.2.1 315 = .ok (.invokevirtual 101, 3) := by decide +kernel
theorem dM_made_318 : decode mM_made.2.1 318 = .ok (.ireturn, 1) := by decide +kernel
theorem dM_made_319 : decode mM_made.2.1 319 = .ok (.aload_n 0, 1) := by decide +kernel
theorem dM_made_320 : decode mM_made.2.1 320 = .ok (.iload 4, 2) := by decide +kernel
theorem dM_made_322 : decode mM_made.2.1 322 = .ok (.iload_n 2, 1) := by decide +kernel
theorem dM_made_323 : decode mM_made.2.1 323 = .ok (.aload_n 0, 1) := by decide +kernel
theorem dM_made_324 : decode mM_made.2.1 324 = .ok (.getfield 19, 3) := by decide +kernel
theorem dM_made_327 : decode mM_made.2.1 327 = .ok (.iload_n 1, 1) := by decide +kernel
theorem dM_made_328 : decode mM_made.2.1 328 = .ok (.iaload, 1) := by decide +kernel
theorem dM_made_329 : decode mM_made.2.1 329 = .ok (.iadd, 1) := by decide +kernel
theorem dM_made_330 : decode mM_made.2.1 330 = .ok (.iload_n 3, 1) := by decide +kernel
theorem dM_made_331 : decode mM_made.2.1 331 = .ok (.aload_n 0, 1) := by decide +kernel
theorem dM_made_332 : decode mM_made.2.1 332 = .ok (.getfield 22, 3) := by decide +kernel
theorem dM_made_335 : decode mM_made.2.1 335 = .ok (.iload_n 1, 1) := by decide +kernel
theorem dM_made_336 : decode mM_made.2.1 336 = .ok (.iaload, 1) := by decide +kernel
theorem dM_made_337 : decode mM_made.2.1 337 = .ok (.iadd, 1) := by decide +kernel
theorem dM_made_338 : decode mM_made.2.1 338 = .ok (.invokevirtual 101, 3) := by decide +kernel
theorem dM_made_341 : decode mM_made.2.1 341 = .ok (.ireturn, 1) := by decide +kernel
theorem dM_total_0 : decode mM_total.2.1 0 = .ok (.aload_n 0, 1) := by decide +kernel
theorem dM_total_1 : decode mM_total.2.1 1 = .ok (.getfield 13, 3) := by decide +kernel
theorem dM_total_4 : decode mM_total.2.1 4 = .ok (.iload_n 1, 1) := by decide +kernel
theorem dM_total_5 : decode mM_total.2.1 5 = .ok (.iaload, 1) := by decide +kernel
theorem dM_total_6 : decode mM_total.2.1 6 = .ok (.istore 4, 2) := by decide +kernel
theorem dM_total_8 : decode mM_total.2.1 8 = .ok (.iconst 0, 1) := by decide +kernel
theorem dM_total_9 : decode mM_total.2.1 9 = .ok (.istore 5, 2) := by decide +kernel
theorem dM_total_11 : decode mM_total.2.1 11 = .ok (.aload_n 0, 1) := by decide +kernel
theorem dM_total_12 : decode mM_total.2.1 12 = .ok (.getfield 7, 3) := by decide +kernel
theorem dM_total_15 : decode mM_total.2.1 15 = .ok (.iload_n 1, 1) := by decide +kernel
theorem dM_total_16 : decode mM_total.2.1 16 = .ok (.iaload, 1) := by decide +kernel
theorem dM_total_17 : decode mM_total.2.1 17 = .ok (.bipush 8, 2) := by decide +kernel
theorem dM_total_19 : decode mM_total.2.1 19 = .ok (.if_icmp .ne 7, 3) := by decide +kernel
theorem dM_total_22 : decode mM_total.2.1 22 = .ok (.iconst 1, 1) := by decide +kernel
theorem dM_total_23 : decode mM_total.2.1 23 = .ok (.goto 4, 3) := by decide +kernel
theorem dM_total_26 : decode mM_total.2.1 26 = .ok (.iconst 0, 1) := by decide +kernel
theorem dM_total_27 : decode mM_total.2.1 27 = .ok (.istore 6, 2) := by decide +kernel
theorem dM_total_29 : decode mM_total.2.1 29 = .ok (.iload 6, 2) := by decide +kernel
theorem dM_total_31 : decode mM_total.2.1 31 = .ok (.ifCond .ne 13, 3) := by decide +kernel
theorem dM_total_34 : decode mM_total.2.1 34 = .ok (.aload_n 0, 1) := by decide +kernel
theorem dM_total_35 : decode mM_total.2.1 35 = .ok (.getfield 19, 3) := by decide +kernel
theorem dM_total_38 : decode mM_total.2.1 38 = .ok (.iload_n 1, 1) := by decide +kernel
theorem dM_total_39 : decode mM_total.2.1 39 = .ok (.iaload, 1) := by decide +kernel
theorem dM_total_40 : decode mM_total.2.1 40 = .ok (.iconst 1, 1) := by decide +kernel
theorem dM_total_41 : decode mM_total.2.1 41 = .ok (.if_icmp .ne 13, 3) := by decide +kernel
theorem dM_total_44 : decode mM_total.2.1 44 = .ok (.aload_n 0, 1) := by decide +kernel
theorem dM_total_45 : decode mM_total.2.1 45 = .ok (.getfield 28, 3) := by decide +kernel
theorem dM_total_48 : decode mM_total.2.1 48 = .ok (.iload 4, 2) := by decide +kernel
theorem dM_total_50 : decode mM_total.2.1 50 = .ok (.iaload, 1) := by decide +kernel
theorem dM_total_51 : decode mM_total.2.1 51 = .ok (.goto 10, 3) := by decide +kernel
theorem dM_total_54 : decode mM_total.2.1 54 = .ok (.aload_n 0, 1) := by decide +kernel
theorem dM_total_55 : decode mM_total.2.1 55 = .ok (.getfield 25, 3) := by decide +kernel
theorem dM_total_58 : decode mM_total.2.1 58 = .ok (.iload 4, 2) := by decide +kernel
theorem dM_total_60 : decode mM_total.2.1 60 = .ok (.iaload, 1) := by decide +kernel
theorem dM_total_61 : decode mM_total.2.1 61 = .ok (.istore 7, 2) := by decide +kernel
theorem dM_total_63 : decode mM_total.2.1 63 = .ok (.iconst 0, 1) := by decide +kernel
theorem dM_total_64 : decode mM_total.2.1 64 = .ok (.istore 8, 2) := by decide +kernel
theorem dM_total_66 : decode mM_total.2.1 66 = .ok (.iload 8, 2) := by decide +kernel
theorem dM_total_68 : decode mM_total.2.1 68 = .ok (.iload 7, 2) := by decide +kernel
theorem dM_total_70 : decode mM_total.2.1 70 = .ok (.if_icmp .ge 76, 3) := by decide +kernel
theorem dM_total_73 : decode mM_total.2.1 73 = .ok (.iload 5, 2) := by decide +kernel
theorem dM_total_75 : decode mM_total.2.1 75 = .ok (.iload 6, 2) := by decide +kernel
theorem dM_total_77 : decode mM_total.2.1 77 = .ok (.ifCond .eq 29, 3) := by decide +kernel
theorem dM_total_80 : decode mM_total.2.1 80 = .ok (.aload_n 0, 1) := by decide +kernel
theorem dM_total_81 : decode mM_total.2.1 81 = .ok (.iload 4, 2) := by decide +kernel
theorem dM_total_83 : decode mM_total.2.1 83 = .ok (.iload_n 2, 1) := by decide +kernel
theorem dM_total_84 : decode mM_total.2.1 84 = .ok (.iload 8, 2) := by decide +kernel
theorem dM_total_86 : decode mM_total.2.1 86 = .ok (.invokevirtual 101, 3) := by decide +kernel
theorem dM_total_89 : decode mM_total.2.1 89 = .ok (.aload_n 0, 1) := by decide +kernel
theorem dM_total_90 : decode mM_total.2.1 90 = .ok (.aload_n 0, 1) := by decide +kernel
theorem dM_total_91 : decode mM_total.2.1 91 = .ok (.getfield 16, 3) := by decide +kernel
theorem dM_total_94 : decode mM_total.2.1 94 = .ok (.iload_n 1, 1) := by decide +kernel
theorem dM_total_95 : decode mM_total.2.1 95 = .ok (.iaload, 1) := by decide +kernel
theorem dM_total_96 : decode mM_total.2.1 96 = .ok (.iload 8, 2) := by decide +kernel
theorem dM_total_98 : decode mM_total.2.1 98 = .ok (.iload_n 3, 1) := by decide +kernel
theorem dM_total_99 : decode mM_total.2.1 99 = .ok (.invokevirtual 101, 3) := by decide +kernel
theorem dM_total_102 : decode mM_total.2.1 102 = .ok (.imul, 1) := by decide +kernel
theorem dM_total_103 : decode mM_total.2.1 103 = .ok (.goto 34, 3) := by decide +kernel
theorem dM_total_106 : decode mM_total.2.1 106 = .ok (.aload_n 0, 1) := by decide +kernel
theorem dM_total_107 : decode mM_total.2.1 107 = .ok (.getfield 19, 3) := by decide +kernel
theorem dM_total_110 : decode mM_total.2.1 110 = .ok (.iload_n 1, 1) := by decide +kernel
theorem dM_total_111 : decode mM_total.2.1 111 = .ok (.iaload, 1) := by decide +kernel
theorem dM_total_112 : decode mM_total.2.1 112 = .ok (.iconst 1, 1) := by decide +kernel
theorem dM_total_113 : decode mM_total.2.1 113 = .ok (.if_icmp .ne 15, 3) := by decide +kernel
theorem dM_total_116 : decode mM_total.2.1 116 = .ok (.aload_n 0, 1) := by decide +kernel
theorem dM_total_117 : decode mM_total.2.1 117 = .ok (.iload 4, 2) := by decide +kernel
theorem dM_total_119 : decode mM_total.2.1 119 = .ok (.iload_n 2, 1) := by decide +kernel
theorem dM_total_120 : decode mM_total.2.1 120 = .ok (.iload 8, 2) := by decide +kernel
theorem dM_total_122 : decode mM_total.2.1 122 = .ok (.invokevirtual 101, 3) := by decide +kernel
theorem dM_total_125 : decode mM_total.2.1 125 = .ok (.goto 12, 3) := by decide +kernel
theorem dM_total_128 : decode mM_total.2.1 128 = .ok (.aload_n 0, 1) := by decide +kernel
theorem dM_total_129 : decode mM_total.2.1 129 = .ok (.iload 4, 2) := by decide +kernel
theorem dM_total_131 : decode mM_total.2.1 131 = .ok (.iload 8, 2) := by decide +kernel
theorem dM_total_133 : decode mM_total.2.1 133 = .ok (.iload_n 3, 1) := by decide +kernel
theorem dM_total_134 : decode mM_total.2.1 134 = .ok (.invokevirtual 101, 3) := by decide +kernel
theorem dM_total_137 : decode mM_total.2.1 137 = .ok (.iadd, 1) := by decide +kernel
theorem dM_total_138 : decode mM_total.2.1 138 = .ok (.istore 5, 2) := by decide +kernel
theorem dM_total_140 : decode mM_total.2.1 140 = .ok (.iinc 8 1, 3) := by decide +kernel
theorem dM_total_143 : decode mM_total.2.1 143 = .ok (.goto (-77), 3) := by decide +kernel
theorem dM_total_146 : decode mM_total.2.1 146 = .ok (.iload 5, 2) := by decide +kernel
theorem dM_total_148 : decode mM_total.2.1 148 = .ok (.ireturn, 1) := by decide +kernel
theorem dM_work_0 : decode mM_work.2.1 0 = .ok (.iconst 0, 1) := by decide +kernel
theorem dM_work_1 : decode mM_work.2.1 1 = .ok (.istore_n 1, 1) := by decide +kernel
theorem dM_work_2 : decode mM_work.2.1 2 = .ok (.iconst 0, 1) := by decide +kernel
theorem dM_work_3 : decode mM_work.2.1 3 = .ok (.istore_n 2, 1) := by decide +kernel
theorem dM_work_4 : decode mM_work.2.1 4 = .ok (.iload_n 2, 1) := by decide +kernel
theorem dM_work_5 : decode mM_work.2.1 5 = .ok (.aload_n 0, 1) := by decide +kernel
theorem dM_work_6 : decode mM_work.2.1 6 = .ok (.getfield 50, 3) := by decide +kernel
theorem dM_work_9 : decode mM_work.2.1 9 = .ok (.if_icmp .ge 112, 3) := by decide +kernel
theorem dM_work_12 : decode mM_work.2.1 12 = .ok (.aload_n 0, 1) := by decide +kernel
theorem dM_work_13 : decode mM_work.2.1 13 = .ok (.getfield 44, 3) := by decide +kernel
theorem dM_work_16 : decode mM_work.2.1 16 = .ok (.iload_n 2, 1) := by decide +kernel
theorem dM_work_17 : decode mM_work.2.1 17 = .ok (.aload_n 0, 1) := by decide +kernel
theorem dM_work_18 : decode mM_work.2.1 18 = .ok (.iload_n 2, 1) := by decide +kernel
theorem dM_work_19 : decode mM_work.2.1 19 = .ok (.invokevirtual 108, 3) := by decide +kernel
theorem dM_work_22 : decode mM_work.2.1 22 = .ok (.bastore, 1) := by decide +kernel
theorem dM_work_23 : decode mM_work.2.1 23 = .ok (.aload_n 0, 1) := by decide +kernel
theorem dM_work_24 : decode mM_work.2.1 24 = .ok (.getfield 44, 3) := by decide +kernel
theorem dM_work_27 : decode mM_work.2.1 27 = .ok (.iload_n 2, 1) := by decide +kernel
theorem dM_work_28 : decode mM_work.2.1 28 = .ok (.baload, 1) := by decide +kernel
theorem dM_work_29 : decode mM_work.2.1 29 = .ok (.ifCond .eq 86, 3) := by decide +kernel
theorem dM_work_32 : decode mM_work.2.1 32 = .ok (.iload_n 1, 1) := by decide +kernel
theorem dM_work_33 : decode mM_work.2.1 33 = .ok (.aload_n 0, 1) := by decide +kernel
theorem dM_work_34 : decode mM_work.2.1 34 = .ok (.iload_n 2, 1) := by decide +kernel
theorem dM_work_35 : decode mM_work.2.1 35 = .ok (.invokevirtual 111, 3) := by decide +kernel
theorem dM_work_38 : decode mM_work.2.1 38 = .ok (.iadd, 1) := by decide +kernel
theorem dM_work_39 : decode mM_work.2.1 39 = .ok (.istore_n 1, 1) := by decide +kernel
theorem dM_work_40 : decode mM_work.2.1 40 = .ok (.iconst 0, 1) := by decide +kernel
theorem dM_work_41 : decode mM_work.2.1 41 = .ok (.istore_n 3, 1) := by decide +kernel
theorem dM_work_42 : decode mM_work.2.1 42 = .ok (.iload_n 3, 1) := by decide +kernel
theorem dM_work_43 : decode mM_work.2.1 43 = .ok (.aload_n 0, 1) := by decide +kernel
theorem dM_work_44 : decode mM_work.2.1 44 = .ok (.getfield 25, 3) := by decide +kernel
theorem dM_work_47 : decode mM_work.2.1 47 = .ok (.iload_n 2, 1) := by decide +kernel
theorem dM_work_48 : decode mM_work.2.1 48 = .ok (.iaload, 1) := by decide +kernel
theorem dM_work_49 : decode mM_work.2.1 49 = .ok (.aload_n 0, 1) := by decide +kernel
theorem dM_work_50 : decode mM_work.2.1 50 = .ok (.getfield 28, 3) := by decide +kernel
theorem dM_work_53 : decode mM_work.2.1 53 = .ok (.iload_n 2, 1) := by decide +kernel
theorem dM_work_54 : decode mM_work.2.1 54 = .ok (.iaload, 1) := by decide +kernel
theorem dM_work_55 : decode mM_work.2.1 55 = .ok (.imul, 1) := by decide +kernel
theorem dM_work_56 : decode mM_work.2.1 56 = .ok (.if_icmp .ge 59, 3) := by decide +kernel
theorem dM_work_59 : decode mM_work.2.1 59 = .ok (.aload_n 0, 1) := by decide +kernel
theorem dM_work_60 : decode mM_work.2.1 60 = .ok (.getfield 41, 3) := by decide +kernel
theorem dM_work_63 : decode mM_work.2.1 63 = .ok (.iload_n 2, 1) := by decide +kernel
theorem dM_work_64 : decode mM_work.2.1 64 = .ok (.bipush 16, 2) := by decide +kernel
theorem dM_work_66 : decode mM_work.2.1 66 = .ok (.imul, 1) := by decide +kernel
theorem dM_work_67 : decode mM_work.2.1 67 = .ok (.iload_n 3, 1) := by decide +kernel
theorem dM_work_68 : decode mM_work.2.1 68 = .ok (.aload_n 0, 1) := by decide +kernel
theorem dM_work_69 : decode mM_work.2.1 69 = .ok (.getfield 28, 3) := by decide +kernel
theorem dM_work_72 : decode mM_work.2.1 72 = .ok (.iload_n 2, 1) := by decide +kernel
theorem dM_work_73 : decode mM_work.2.1 73 = .ok (.iaload, 1) := by decide +kernel
theorem dM_work_74 : decode mM_work.2.1 74 = .ok (.idiv, 1) := by decide +kernel
theorem dM_work_75 : decode mM_work.2.1 75 = .ok (.iconst 4, 1) := by decide +kernel
theorem dM_work_76 : decode mM_work.2.1 76 = .ok (.imul, 1) := by decide +kernel
theorem dM_work_77 : decode mM_work.2.1 77 = .ok (.iadd, 1) := by decide +kernel
theorem dM_work_78 : decode mM_work.2.1 78 = .ok (.iload_n 3, 1) := by decide +kernel
theorem dM_work_79 : decode mM_work.2.1 79 = .ok (.aload_n 0, 1) := by decide +kernel
theorem dM_work_80 : decode mM_work.2.1 80 = .ok (.getfield 28, 3) := by decide +kernel
theorem dM_work_83 : decode mM_work.2.1 83 = .ok (.iload_n 2, 1) := by decide +kernel
theorem dM_work_84 : decode mM_work.2.1 84 = .ok (.iaload, 1) := by decide +kernel
theorem dM_work_85 : decode mM_work.2.1 85 = .ok (.irem, 1) := by decide +kernel
theorem dM_work_86 : decode mM_work.2.1 86 = .ok (.iadd, 1) := by decide +kernel
theorem dM_work_87 : decode mM_work.2.1 87 = .ok (.aload_n 0, 1) := by decide +kernel
theorem dM_work_88 : decode mM_work.2.1 88 = .ok (.iload_n 2, 1) := by decide +kernel
theorem dM_work_89 : decode mM_work.2.1 89 = .ok (.iload_n 3, 1) := by decide +kernel
theorem dM_work_90 : decode mM_work.2.1 90 = .ok (.aload_n 0, 1) := by decide +kernel
theorem dM_work_91 : decode mM_work.2.1 91 = .ok (.getfield 28, 3) := by decide +kernel
theorem dM_work_94 : decode mM_work.2.1 94 = .ok (.iload_n 2, 1) := by decide +kernel
theorem dM_work_95 : decode mM_work.2.1 95 = .ok (.iaload, 1) := by decide +kernel
theorem dM_work_96 : decode mM_work.2.1 96 = .ok (.idiv, 1) := by decide +kernel
theorem dM_work_97 : decode mM_work.2.1 97 = .ok (.iload_n 3, 1) := by decide +kernel
theorem dM_work_98 : decode mM_work.2.1 98 = .ok (.aload_n 0, 1) := by decide +kernel
theorem dM_work_99 : decode mM_work.2.1 99 = .ok (.getfield 28, 3) := by decide +kernel
theorem dM_work_102 : decode mM_work.2.1 102 = .ok (.iload_n 2, 1) := by decide +kernel
theorem dM_work_103 : decode mM_work.2.1 103 = .ok (.iaload, 1) := by decide +kernel
theorem dM_work_104 : decode mM_work.2.1 104 = .ok (.irem, 1) := by decide +kernel
theorem dM_work_105 : decode mM_work.2.1 105 = .ok (.invokevirtual 114, 3) := by decide +kernel
theorem dM_work_108 : decode mM_work.2.1 108 = .ok (.iastore, 1) := by decide +kernel
theorem dM_work_109 : decode mM_work.2.1 109 = .ok (.iinc 3 1, 3) := by decide +kernel
theorem dM_work_112 : decode mM_work.2.1 112 = .ok (.goto (-70), 3) := by decide +kernel
theorem dM_work_115 : decode mM_work.2.1 115 = .ok (.iinc 2 1, 3) := by decide +kernel
theorem dM_work_118 : decode mM_work.2.1 118 = .ok (.goto (-114), 3) := by decide +kernel
theorem dM_work_121 : decode mM_work.2.1 121 = .ok (.iload_n 1, 1) := by decide +kernel
theorem dM_work_122 : decode mM_work.2.1 122 = .ok (.ireturn, 1) := by decide +kernel
theorem dM_cell_0 : decode mM_cell.2.1 0 = .ok (.aload_n 0, 1) := by decide +kernel
theorem dM_cell_1 : decode mM_cell.2.1 1 = .ok (.iload_n 1, 1) := by decide +kernel
theorem dM_cell_2 : decode mM_cell.2.1 2 = .ok (.invokevirtual 69, 3) := by decide +kernel
theorem dM_cell_5 : decode mM_cell.2.1 5 = .ok (.ifCond .ne 40, 3) := by decide +kernel
theorem dM_cell_8 : decode mM_cell.2.1 8 = .ok (.aload_n 0, 1) := by decide +kernel
theorem dM_cell_9 : decode mM_cell.2.1 9 = .ok (.getfield 44, 3) := by decide +kernel
theorem dM_cell_12 : decode mM_cell.2.1 12 = .ok (.iload_n 1, 1) := by decide +kernel
theorem dM_cell_13 : decode mM_cell.2.1 13 = .ok (.baload, 1) := by decide +kernel
theorem dM_cell_14 : decode mM_cell.2.1 14 = .ok (.ifCond .eq 31, 3) := by decide +kernel
theorem dM_cell_17 : decode mM_cell.2.1 17 = .ok (.iload_n 2, 1) := by decide +kernel
theorem dM_cell_18 : decode mM_cell.2.1 18 = .ok (.ifCond .lt 27, 3) := by decide +kernel
theorem dM_cell_21 : decode mM_cell.2.1 21 = .ok (.iload_n 2, 1) := by decide +kernel
theorem dM_cell_22 : decode mM_cell.2.1 22 = .ok (.aload_n 0, 1) := by decide +kernel
theorem dM_cell_23 : decode mM_cell.2.1 23 = .ok (.getfield 25, 3) := by decide +kernel
theorem dM_cell_26 : decode mM_cell.2.1 26 = .ok (.iload_n 1, 1) := by decide +kernel
theorem dM_cell_27 : decode mM_cell.2.1 27 = .ok (.iaload, 1) := by decide +kernel
theorem dM_cell_28 : decode mM_cell.2.1 28 = .ok (.if_icmp .ge 17, 3) := by decide +kernel
theorem dM_cell_31 : decode mM_cell.2.1 31 = .ok (.iload_n 3, 1) := by decide +kernel
theorem dM_cell_32 : decode mM_cell.2.1 32 = .ok (.ifCond .lt 13, 3) := by decide +kernel
theorem dM_cell_35 : decode mM_cell.2.1 35 = .ok (.iload_n 3, 1) := by decide +kernel
theorem dM_cell_36 : decode mM_cell.2.1 36 = .ok (.aload_n 0, 1) := by decide +kernel
theorem dM_cell_37 : decode mM_cell.2.1 37 = .ok (.getfield 28, 3) := by decide +kernel
theorem dM_cell_40 : decode mM_cell.2.1 40 = .ok (.iload_n 1, 1) := by decide +kernel
theorem dM_cell_41 : decode mM_cell.2.1 41 = .ok (.iaload, 1) := by decide +kernel
theorem dM_cell_42 : decode mM_cell.2.1 42 = .ok (.if_icmp .lt 7, 3) := by decide +kernel
theorem dM_cell_45 : decode mM_cell.2.1 45 = .ok (.ldc2_w 117, 3) := by decide +kernel
theorem dM_cell_48 : decode mM_cell.2.1 48 = .ok (.lreturn, 1) := by decide +kernel
theorem dM_cell_49 : decode mM_cell.2.1 49 = .ok (.aload_n 0, 1) := by decide +kernel
theorem dM_cell_50 : decode mM_cell.2.1 50 = .ok (.iload_n 1, 1) := by decide +kernel
theorem dM_cell_51 : decode mM_cell.2.1 51 = .ok (.iload_n 2, 1) := by decide +kernel
theorem dM_cell_52 : decode mM_cell.2.1 52 = .ok (.iload_n 3, 1) := by decide +kernel
theorem dM_cell_53 : decode mM_cell.2.1 53 = .ok (.invokevirtual 101, 3) := by decide +kernel
theorem dM_cell_56 : decode mM_cell.2.1 56 = .ok (.i2l, 1) := by decide +kernel
theorem dM_cell_57 : decode mM_cell.2.1 57 = .ok (.lreturn, 1) := by decide +kernel
theorem dM_standIn_0 : decode mM_standIn.2.1 0 = .ok (.aload_n 0, 1) := by decide +kernel
theorem dM_standIn_1 : decode mM_standIn.2.1 1 = .ok (.iload_n 1, 1) := by decide +kernel
theorem dM_standIn_2 : decode mM_standIn.2.1 2 = .ok (.invokevirtual 69, 3) := by decide +kernel
theorem dM_standIn_5 : decode mM_standIn.2.1 5 = .ok (.ifCond .eq 7, 3) := by decide +kernel
theorem dM_standIn_8 : decode mM_standIn.2.1 8 = .ok (.iconst (-1), 1) := by decide +kernel
theorem dM_standIn_9 : decode mM_standIn.2.1 9 = .ok (.goto 9, 3) := by decide +kernel
theorem dM_standIn_12 : decode mM_standIn.2.1 12 = .ok (.aload_n 0, 1) := by decide +kernel
theorem dM_standIn_13 : decode mM_standIn.2.1 13 = .ok (.getfield 35, 3) := by decide +kernel
theorem dM_standIn_16 : decode mM_standIn.2.1 16 = .ok (.iload_n 1, 1) := by decide +kernel
theorem dM_standIn_17 : decode mM_standIn.2.1 17 = .ok (.iaload, 1) := by decide +kernel
theorem dM_standIn_18 : decode mM_standIn.2.1 18 = .ok (.ireturn, 1) := by decide +kernel
theorem dM_value_0 : decode mM_value.2.1 0 = .ok (.aload_n 0, 1) := by decide +kernel
theorem dM_value_1 : decode mM_value.2.1 1 = .ok (.iload_n 1, 1) := by decide +kernel
theorem dM_value_2 : decode mM_value.2.1 2 = .ok (.invokevirtual 69, 3) := by decide +kernel
theorem dM_value_5 : decode mM_value.2.1 5 = .ok (.ifCond .ne 14, 3) := by decide +kernel
theorem dM_value_8 : decode mM_value.2.1 8 = .ok (.aload_n 0, 1) := by decide +kernel
theorem dM_value_9 : decode mM_value.2.1 9 = .ok (.iload_n 2, 1) := by decide +kernel
theorem dM_value_10 : decode mM_value.2.1 10 = .ok (.iconst 0, 1) := by decide +kernel
theorem dM_value_11 : decode mM_value.2.1 11 = .ok (.bipush 7, 2) := by decide +kernel
theorem dM_value_13 : decode mM_value.2.1 13 = .ok (.invokevirtual 61, 3) := by decide +kernel
theorem dM_value_16 : decode mM_value.2.1 16 = .ok (.ifCond .eq 5, 3) := by decide +kernel
theorem dM_value_19 : decode mM_value.2.1 19 = .ok (.iconst (-1), 1) := by decide +kernel
theorem dM_value_20 : decode mM_value.2.1 20 = .ok (.ireturn, 1) := by decide +kernel
theorem dM_value_21 : decode mM_value.2.1 21 = .ok (.iload_n 2, 1) := by decide +kernel
theorem dM_value_22 : decode mM_value.2.1 22 = .ok (.tableswitch 91 0 6 #[42, 49, 56, 63, 70, 77, 84], 42) := by decide +kernel
theorem dM_value_64 : decode mM_value.2.1 64 = .ok (.aload_n 0, 1) := by decide +kernel
theorem dM_value_65 : decode mM_value.2.1 65 = .ok (.getfield 7, 3) := by decide +kernel
theorem dM_value_68 : decode mM_value.2.1 68 = .ok (.iload_n 1, 1) := by decide +kernel
theorem dM_value_69 : decode mM_value.2.1 69 = .ok (.iaload, 1) := by decide +kernel
theorem dM_value_70 : decode mM_value.2.1 70 = .ok (.ireturn, 1) := by decide +kernel
theorem dM_value_71 : decode mM_value.2.1 71 = .ok (.aload_n 0, 1) := by decide +kernel
theorem dM_value_72 : decode mM_value.2.1 72 = .ok (.getfield 25, 3) := by decide +kernel
theorem dM_value_75 : decode mM_value.2.1 75 = .ok (.iload_n 1, 1) := by decide +kernel
theorem dM_value_76 : decode mM_value.2.1 76 = .ok (.iaload, 1) := by decide +kernel
theorem dM_value_77 : decode mM_value.2.1 77 = .ok (.ireturn, 1) := by decide +kernel
theorem dM_value_78 : decode mM_value.2.1 78 = .ok (.aload_n 0, 1) := by decide +kernel
theorem dM_value_79 : decode mM_value.2.1 79 = .ok (.getfield 28, 3) := by decide +kernel
theorem dM_value_82 : decode mM_value.2.1 82 = .ok (.iload_n 1, 1) := by decide +kernel
theorem dM_value_83 : decode mM_value.2.1 83 = .ok (.iaload, 1) := by decide +kernel
theorem dM_value_84 : decode mM_value.2.1 84 = .ok (.ireturn, 1) := by decide +kernel
theorem dM_value_85 : decode mM_value.2.1 85 = .ok (.aload_n 0, 1) := by decide +kernel
theorem dM_value_86 : decode mM_value.2.1 86 = .ok (.getfield 13, 3) := by decide +kernel
theorem dM_value_89 : decode mM_value.2.1 89 = .ok (.iload_n 1, 1) := by decide +kernel
theorem dM_value_90 : decode mM_value.2.1 90 = .ok (.iaload, 1) := by decide +kernel
theorem dM_value_91 : decode mM_value.2.1 91 = .ok (.ireturn, 1) := by decide +kernel
theorem dM_value_92 : decode mM_value.2.1 92 = .ok (.aload_n 0, 1) := by decide +kernel
theorem dM_value_93 : decode mM_value.2.1 93 = .ok (.getfield 16, 3) := by decide +kernel
theorem dM_value_96 : decode mM_value.2.1 96 = .ok (.iload_n 1, 1) := by decide +kernel
theorem dM_value_97 : decode mM_value.2.1 97 = .ok (.iaload, 1) := by decide +kernel
theorem dM_value_98 : decode mM_value.2.1 98 = .ok (.ireturn, 1) := by decide +kernel
theorem dM_value_99 : decode mM_value.2.1 99 = .ok (.aload_n 0, 1) := by decide +kernel
theorem dM_value_100 : decode mM_value.2.1 100 = .ok (.getfield 19, 3) := by decide +kernel
theorem dM_value_103 : decode mM_value.2.1 103 = .ok (.iload_n 1, 1) := by decide +kernel
theorem dM_value_104 : decode mM_value.2.1 104 = .ok (.iaload, 1) := by decide +kernel
theorem dM_value_105 : decode mM_value.2.1 105 = .ok (.ireturn, 1) := by decide +kernel
theorem dM_value_106 : decode mM_value.2.1 106 = .ok (.aload_n 0, 1) := by decide +kernel
theorem dM_value_107 : decode mM_value.2.1 107 = .ok (.getfield 22, 3) := by decide +kernel
theorem dM_value_110 : decode mM_value.2.1 110 = .ok (.iload_n 1, 1) := by decide +kernel
theorem dM_value_111 : decode mM_value.2.1 111 = .ok (.iaload, 1) := by decide +kernel
theorem dM_value_112 : decode mM_value.2.1 112 = .ok (.ireturn, 1) := by decide +kernel
theorem dM_value_113 : decode mM_value.2.1 113 = .ok (.aload_n 0, 1) := by decide +kernel
theorem dM_value_114 : decode mM_value.2.1 114 = .ok (.iload_n 1, 1) := by decide +kernel
theorem dM_value_115 : decode mM_value.2.1 115 = .ok (.invokevirtual 108, 3) := by decide +kernel
theorem dM_value_118 : decode mM_value.2.1 118 = .ok (.ifCond .eq 7, 3) := by decide +kernel
theorem dM_value_121 : decode mM_value.2.1 121 = .ok (.iconst 1, 1) := by decide +kernel
theorem dM_value_122 : decode mM_value.2.1 122 = .ok (.goto 4, 3) := by decide +kernel
theorem dM_value_125 : decode mM_value.2.1 125 = .ok (.iconst 0, 1) := by decide +kernel
theorem dM_value_126 : decode mM_value.2.1 126 = .ok (.ireturn, 1) := by decide +kernel
theorem dM_count_0 : decode mM_count.2.1 0 = .ok (.iload_n 1, 1) := by decide +kernel
theorem dM_count_1 : decode mM_count.2.1 1 = .ok (.iconst 1, 1) := by decide +kernel
theorem dM_count_2 : decode mM_count.2.1 2 = .ok (.if_icmp .lt 16, 3) := by decide +kernel
theorem dM_count_5 : decode mM_count.2.1 5 = .ok (.iload_n 1, 1) := by decide +kernel
theorem dM_count_6 : decode mM_count.2.1 6 = .ok (.bipush 6, 2) := by decide +kernel
theorem dM_count_8 : decode mM_count.2.1 8 = .ok (.if_icmp .gt 10, 3) := by decide +kernel
theorem dM_count_11 : decode mM_count.2.1 11 = .ok (.aload_n 0, 1) := by decide +kernel
theorem dM_count_12 : decode mM_count.2.1 12 = .ok (.getfield 47, 3) := by decide +kernel
theorem dM_count_15 : decode mM_count.2.1 15 = .ok (.iload_n 1, 1) := by decide +kernel
theorem dM_count_16 : decode mM_count.2.1 16 = .ok (.iaload, 1) := by decide +kernel
theorem dM_count_17 : decode mM_count.2.1 17 = .ok (.ireturn, 1) := by decide +kernel
theorem dM_count_18 : decode mM_count.2.1 18 = .ok (.iload_n 1, 1) := by decide +kernel
theorem dM_count_19 : decode mM_count.2.1 19 = .ok (.ifCond .ne 8, 3) := by decide +kernel
theorem dM_count_22 : decode mM_count.2.1 22 = .ok (.aload_n 0, 1) := by decide +kernel
theorem dM_count_23 : decode mM_count.2.1 23 = .ok (.getfield 50, 3) := by decide +kernel
theorem dM_count_26 : decode mM_count.2.1 26 = .ok (.ireturn, 1) := by decide +kernel
theorem dM_count_27 : decode mM_count.2.1 27 = .ok (.iload_n 1, 1) := by decide +kernel
theorem dM_count_28 : decode mM_count.2.1 28 = .ok (.bipush 9, 2) := by decide +kernel
theorem dM_count_30 : decode mM_count.2.1 30 = .ok (.if_icmp .ne 16, 3) := by decide +kernel
theorem dM_count_33 : decode mM_count.2.1 33 = .ok (.aload_n 0, 1) := by decide +kernel
theorem dM_count_34 : decode mM_count.2.1 34 = .ok (.getfield 54, 3) := by decide +kernel
theorem dM_count_37 : decode mM_count.2.1 37 = .ok (.ifCond .eq 7, 3) := by decide +kernel
theorem dM_count_40 : decode mM_count.2.1 40 = .ok (.iconst 1, 1) := by decide +kernel
theorem dM_count_41 : decode mM_count.2.1 41 = .ok (.goto 4, 3) := by decide +kernel
theorem dM_count_44 : decode mM_count.2.1 44 = .ok (.iconst 0, 1) := by decide +kernel
theorem dM_count_45 : decode mM_count.2.1 45 = .ok (.ireturn, 1) := by decide +kernel
theorem dM_count_46 : decode mM_count.2.1 46 = .ok (.iload_n 1, 1) := by decide +kernel
theorem dM_count_47 : decode mM_count.2.1 47 = .ok (.bipush 7, 2) := by decide +kernel
theorem dM_count_49 : decode mM_count.2.1 49 = .ok (.if_icmp .eq 11, 3) := by decide +kernel
theorem dM_count_52 : decode mM_count.2.1 52 = .ok (.iload_n 1, 1) := by decide +kernel
theorem dM_count_53 : decode mM_count.2.1 53 = .ok (.bipush 8, 2) := by decide +kernel
theorem dM_count_55 : decode mM_count.2.1 55 = .ok (.if_icmp .eq 5, 3) := by decide +kernel
theorem dM_count_58 : decode mM_count.2.1 58 = .ok (.iconst (-1), 1) := by decide +kernel
theorem dM_count_59 : decode mM_count.2.1 59 = .ok (.ireturn, 1) := by decide +kernel
theorem dM_count_60 : decode mM_count.2.1 60 = .ok (.iconst 0, 1) := by decide +kernel
theorem dM_count_61 : decode mM_count.2.1 61 = .ok (.istore_n 2, 1) := by decide +kernel
theorem dM_count_62 : decode mM_count.2.1 62 = .ok (.iconst 0, 1) := by decide +kernel
theorem dM_count_63 : decode mM_count.2.1 63 = .ok (.istore_n 3, 1) := by decide +kernel
theorem dM_count_64 : decode mM_count.2.1 64 = .ok (.iload_n 3, 1) := by decide +kernel
theorem dM_count_65 : decode mM_count.2.1 65 = .ok (.aload_n 0, 1) := by decide +kernel
theorem dM_count_66 : decode mM_count.2.1 66 = .ok (.getfield 50, 3) := by decide +kernel
theorem dM_count_69 : decode mM_count.2.1 69 = .ok (.if_icmp .ge 35, 3) := by decide +kernel
theorem dM_count_72 : decode mM_count.2.1 72 = .ok (.aload_n 0, 1) := by decide +kernel
theorem dM_count_73 : decode mM_count.2.1 73 = .ok (.iload_n 3, 1) := by decide +kernel
theorem dM_count_74 : decode mM_count.2.1 74 = .ok (.invokevirtual 108, 3) := by decide +kernel
theorem dM_count_77 : decode mM_count.2.1 77 = .ok (.ifCond .eq 21, 3) := by decide +kernel
theorem dM_count_80 : decode mM_count.2.1 80 = .ok (.iload_n 2, 1) := by decide +kernel
theorem dM_count_81 : decode mM_count.2.1 81 = .ok (.iload_n 1, 1) := by decide +kernel
theorem dM_count_82 : decode mM_count.2.1 82 = .ok (.bipush 7, 2) := by decide +kernel
theorem dM_count_84 : decode mM_count.2.1 84 = .ok (.if_icmp .ne 7, 3) := by decide +kernel
theorem dM_count_87 : decode mM_count.2.1 87 = .ok (.iconst 1, 1) := by decide +kernel
theorem dM_count_88 : decode mM_count.2.1 88 = .ok (.goto 8, 3) := by decide +kernel
theorem dM_count_91 : decode mM_count.2.1 91 = .ok (.aload_n 0, 1) := by decide +kernel
theorem dM_count_92 : decode mM_count.2.1 92 = .ok (.iload_n 3, 1) := by decide +kernel
theorem dM_count_93 : decode mM_count.2.1 93 = .ok (.invokevirtual 111, 3) := by decide +kernel
theorem dM_count_96 : decode mM_count.2.1 96 = .ok (.iadd, 1) := by decide +kernel
theorem dM_count_97 : decode mM_count.2.1 97 = .ok (.istore_n 2, 1) := by decide +kernel
theorem dM_count_98 : decode mM_count.2.1 98 = .ok (.iinc 3 1, 3) := by decide +kernel
theorem dM_count_101 : decode mM_count.2.1 101 = .ok (.goto (-37), 3) := by decide +kernel
theorem dM_count_104 : decode mM_count.2.1 104 = .ok (.iload_n 2, 1) := by decide +kernel
theorem dM_count_105 : decode mM_count.2.1 105 = .ok (.ireturn, 1) := by decide +kernel
theorem dL_law_0 : decode mL_law.2.1 0 = .ok (.new 7, 3) := by decide +kernel
theorem dL_law_3 : decode mL_law.2.1 3 = .ok (.dup, 1) := by decide +kernel
theorem dL_law_4 : decode mL_law.2.1 4 = .ok (.invokespecial 9, 3) := by decide +kernel
theorem dL_law_7 : decode mL_law.2.1 7 = .ok (.astore_n 1, 1) := by decide +kernel
theorem dL_law_8 : decode mL_law.2.1 8 = .ok (.new 10, 3) := by decide +kernel
theorem dL_law_11 : decode mL_law.2.1 11 = .ok (.dup, 1) := by decide +kernel
theorem dL_law_12 : decode mL_law.2.1 12 = .ok (.invokespecial 12, 3) := by decide +kernel
theorem dL_law_15 : decode mL_law.2.1 15 = .ok (.astore_n 2, 1) := by decide +kernel
theorem dL_law_16 : decode mL_law.2.1 16 = .ok (.iconst 0, 1) := by decide +kernel
theorem dL_law_17 : decode mL_law.2.1 17 = .ok (.istore_n 3, 1) := by decide +kernel
theorem dL_law_18 : decode mL_law.2.1 18 = .ok (.iload_n 3, 1) := by decide +kernel
theorem dL_law_19 : decode mL_law.2.1 19 = .ok (.aload_n 0, 1) := by decide +kernel
theorem dL_law_20 : decode mL_law.2.1 20 = .ok (.arraylength, 1) := by decide +kernel
theorem dL_law_21 : decode mL_law.2.1 21 = .ok (.bipush 6, 2) := by decide +kernel
theorem dL_law_23 : decode mL_law.2.1 23 = .ok (.isub, 1) := by decide +kernel
theorem dL_law_24 : decode mL_law.2.1 24 = .ok (.if_icmp .gt 551, 3) := by decide +kernel
theorem dL_law_27 : decode mL_law.2.1 27 = .ok (.aload_n 0, 1) := by decide +kernel
theorem dL_law_28 : decode mL_law.2.1 28 = .ok (.iload_n 3, 1) := by decide +kernel
theorem dL_law_29 : decode mL_law.2.1 29 = .ok (.iaload, 1) := by decide +kernel
theorem dL_law_30 : decode mL_law.2.1 30 = .ok (.bipush 15, 2) := by decide +kernel
theorem dL_law_32 : decode mL_law.2.1 32 = .ok (.iand, 1) := by decide +kernel
theorem dL_law_33 : decode mL_law.2.1 33 = .ok (.tableswitch 536 0 11 #[63, 116, 169, 222, 285, 334, 387, 400, 413, 457, 480, 513], 63) := by decide +kernel
theorem dL_law_96 : decode mL_law.2.1 96 = .ok (.aload_n 1, 1) := by decide +kernel
theorem dL_law_97 : decode mL_law.2.1 97 = .ok (.aload_n 0, 1) := by decide +kernel
theorem dL_law_98 : decode mL_law.2.1 98 = .ok (.iload_n 3, 1) := by decide +kernel
theorem dL_law_99 : decode mL_law.2.1 99 = .ok (.iconst 1, 1) := by decide +kernel
theorem dL_law_100 : decode mL_law.2.1 100 = .ok (.iadd, 1) := by decide +kernel
theorem dL_law_101 : decode mL_law.2.1 101 = .ok (.iaload, 1) := by decide +kernel
theorem dL_law_102 : decode mL_law.2.1 102 = .ok (.aload_n 0, 1) := by decide +kernel
theorem dL_law_103 : decode mL_law.2.1 103 = .ok (.iload_n 3, 1) := by decide +kernel
theorem dL_law_104 : decode mL_law.2.1 104 = .ok (.iconst 2, 1) := by decide +kernel
theorem dL_law_105 : decode mL_law.2.1 105 = .ok (.iadd, 1) := by decide +kernel
theorem dL_law_106 : decode mL_law.2.1 106 = .ok (.iaload, 1) := by decide +kernel
theorem dL_law_107 : decode mL_law.2.1 107 = .ok (.aload_n 0, 1) := by decide +kernel
theorem dL_law_108 : decode mL_law.2.1 108 = .ok (.iload_n 3, 1) := by decide +kernel
theorem dL_law_109 : decode mL_law.2.1 109 = .ok (.iconst 3, 1) := by decide +kernel
theorem dL_law_110 : decode mL_law.2.1 110 = .ok (.iadd, 1) := by decide +kernel
theorem dL_law_111 : decode mL_law.2.1 111 = .ok (.iaload, 1) := by decide +kernel
theorem dL_law_112 : decode mL_law.2.1 112 = .ok (.aload_n 0, 1) := by decide +kernel
theorem dL_law_113 : decode mL_law.2.1 113 = .ok (.iload_n 3, 1) := by decide +kernel
theorem dL_law_114 : decode mL_law.2.1 114 = .ok (.iconst 4, 1) := by decide +kernel
theorem dL_law_115 : decode mL_law.2.1 115 = .ok (.iadd, 1) := by decide +kernel
theorem dL_law_116 : decode mL_law.2.1 116 = .ok (.iaload, 1) := by decide +kernel
theorem dL_law_117 : decode mL_law.2.1 117 = .ok (.invokevirtual 13, 3) := by decide +kernel
theorem dL_law_120 : decode mL_law.2.1 120 = .ok (.aload_n 2, 1) := by decide +kernel
theorem dL_law_121 : decode mL_law.2.1 121 = .ok (.aload_n 0, 1) := by decide +kernel
theorem dL_law_122 : decode mL_law.2.1 122 = .ok (.iload_n 3, 1) := by decide +kernel
theorem dL_law_123 : decode mL_law.2.1 123 = .ok (.iconst 1, 1) := by decide +kernel
theorem dL_law_124 : decode mL_law.2.1 124 = .ok (.iadd, 1) := by decide +kernel
theorem dL_law_125 : decode mL_law.2.1 125 = .ok (.iaload, 1) := by decide +kernel
theorem dL_law_126 : decode mL_law.2.1 126 = .ok (.aload_n 0, 1) := by decide +kernel
theorem dL_law_127 : decode mL_law.2.1 127 = .ok (.iload_n 3, 1) := by decide +kernel
theorem dL_law_128 : decode mL_law.2.1 128 = .ok (.iconst 2, 1) := by decide +kernel
theorem dL_law_129 : decode mL_law.2.1 129 = .ok (.iadd, 1) := by decide +kernel
theorem dL_law_130 : decode mL_law.2.1 130 = .ok (.iaload, 1) := by decide +kernel
theorem dL_law_131 : decode mL_law.2.1 131 = .ok (.aload_n 0, 1) := by decide +kernel
theorem dL_law_132 : decode mL_law.2.1 132 = .ok (.iload_n 3, 1) := by decide +kernel
theorem dL_law_133 : decode mL_law.2.1 133 = .ok (.iconst 3, 1) := by decide +kernel
theorem dL_law_134 : decode mL_law.2.1 134 = .ok (.iadd, 1) := by decide +kernel
theorem dL_law_135 : decode mL_law.2.1 135 = .ok (.iaload, 1) := by decide +kernel
theorem dL_law_136 : decode mL_law.2.1 136 = .ok (.aload_n 0, 1) := by decide +kernel
theorem dL_law_137 : decode mL_law.2.1 137 = .ok (.iload_n 3, 1) := by decide +kernel
theorem dL_law_138 : decode mL_law.2.1 138 = .ok (.iconst 4, 1) := by decide +kernel
theorem dL_law_139 : decode mL_law.2.1 139 = .ok (.iadd, 1) := by decide +kernel
theorem dL_law_140 : decode mL_law.2.1 140 = .ok (.iaload, 1) := by decide +kernel
theorem dL_law_141 : decode mL_law.2.1 141 = .ok (.invokevirtual 17, 3) := by decide +kernel
theorem dL_law_144 : decode mL_law.2.1 144 = .ok (.if_icmp .eq 425, 3) := by decide +kernel
theorem dL_law_147 : decode mL_law.2.1 147 = .ok (.iconst 0, 1) := by decide +kernel
theorem dL_law_148 : decode mL_law.2.1 148 = .ok (.ireturn, 1) := by decide +kernel
theorem dL_law_149 : decode mL_law.2.1 149 = .ok (.aload_n 1, 1) := by decide +kernel
theorem dL_law_150 : decode mL_law.2.1 150 = .ok (.aload_n 0, 1) := by decide +kernel
theorem dL_law_151 : decode mL_law.2.1 151 = .ok (.iload_n 3, 1) := by decide +kernel
theorem dL_law_152 : decode mL_law.2.1 152 = .ok (.iconst 1, 1) := by decide +kernel
theorem dL_law_153 : decode mL_law.2.1 153 = .ok (.iadd, 1) := by decide +kernel
theorem dL_law_154 : decode mL_law.2.1 154 = .ok (.iaload, 1) := by decide +kernel
theorem dL_law_155 : decode mL_law.2.1 155 = .ok (.aload_n 0, 1) := by decide +kernel
theorem dL_law_156 : decode mL_law.2.1 156 = .ok (.iload_n 3, 1) := by decide +kernel
theorem dL_law_157 : decode mL_law.2.1 157 = .ok (.iconst 2, 1) := by decide +kernel
theorem dL_law_158 : decode mL_law.2.1 158 = .ok (.iadd, 1) := by decide +kernel
theorem dL_law_159 : decode mL_law.2.1 159 = .ok (.iaload, 1) := by decide +kernel
theorem dL_law_160 : decode mL_law.2.1 160 = .ok (.aload_n 0, 1) := by decide +kernel
theorem dL_law_161 : decode mL_law.2.1 161 = .ok (.iload_n 3, 1) := by decide +kernel
theorem dL_law_162 : decode mL_law.2.1 162 = .ok (.iconst 3, 1) := by decide +kernel
theorem dL_law_163 : decode mL_law.2.1 163 = .ok (.iadd, 1) := by decide +kernel
theorem dL_law_164 : decode mL_law.2.1 164 = .ok (.iaload, 1) := by decide +kernel
theorem dL_law_165 : decode mL_law.2.1 165 = .ok (.aload_n 0, 1) := by decide +kernel
theorem dL_law_166 : decode mL_law.2.1 166 = .ok (.iload_n 3, 1) := by decide +kernel
theorem dL_law_167 : decode mL_law.2.1 167 = .ok (.iconst 4, 1) := by decide +kernel
theorem dL_law_168 : decode mL_law.2.1 168 = .ok (.iadd, 1) := by decide +kernel
theorem dL_law_169 : decode mL_law.2.1 169 = .ok (.iaload, 1) := by decide +kernel
theorem dL_law_170 : decode mL_law.2.1 170 = .ok (.invokevirtual 18, 3) := by decide +kernel
theorem dL_law_173 : decode mL_law.2.1 173 = .ok (.aload_n 2, 1) := by decide +kernel
theorem dL_law_174 : decode mL_law.2.1 174 = .ok (.aload_n 0, 1) := by decide +kernel
theorem dL_law_175 : decode mL_law.2.1 175 = .ok (.iload_n 3, 1) := by decide +kernel
theorem dL_law_176 : decode mL_law.2.1 176 = .ok (.iconst 1, 1) := by decide +kernel
theorem dL_law_177 : decode mL_law.2.1 177 = .ok (.iadd, 1) := by decide +kernel
theorem dL_law_178 : decode mL_law.2.1 178 = .ok (.iaload, 1) := by decide +kernel
theorem dL_law_179 : decode mL_law.2.1 179 = .ok (.aload_n 0, 1) := by decide +kernel
theorem dL_law_180 : decode mL_law.2.1 180 = .ok (.iload_n 3, 1) := by decide +kernel
theorem dL_law_181 : decode mL_law.2.1 181 = .ok (.iconst 2, 1) := by decide +kernel
theorem dL_law_182 : decode mL_law.2.1 182 = .ok (.iadd, 1) := by decide +kernel
theorem dL_law_183 : decode mL_law.2.1 183 = .ok (.iaload, 1) := by decide +kernel
theorem dL_law_184 : decode mL_law.2.1 184 = .ok (.aload_n 0, 1) := by decide +kernel
theorem dL_law_185 : decode mL_law.2.1 185 = .ok (.iload_n 3, 1) := by decide +kernel
theorem dL_law_186 : decode mL_law.2.1 186 = .ok (.iconst 3, 1) := by decide +kernel
theorem dL_law_187 : decode mL_law.2.1 187 = .ok (.iadd, 1) := by decide +kernel
theorem dL_law_188 : decode mL_law.2.1 188 = .ok (.iaload, 1) := by decide +kernel
theorem dL_law_189 : decode mL_law.2.1 189 = .ok (.aload_n 0, 1) := by decide +kernel
theorem dL_law_190 : decode mL_law.2.1 190 = .ok (.iload_n 3, 1) := by decide +kernel
theorem dL_law_191 : decode mL_law.2.1 191 = .ok (.iconst 4, 1) := by decide +kernel
theorem dL_law_192 : decode mL_law.2.1 192 = .ok (.iadd, 1) := by decide +kernel
theorem dL_law_193 : decode mL_law.2.1 193 = .ok (.iaload, 1) := by decide +kernel
theorem dL_law_194 : decode mL_law.2.1 194 = .ok (.invokevirtual 21, 3) := by decide +kernel
theorem dL_law_197 : decode mL_law.2.1 197 = .ok (.if_icmp .eq 372, 3) := by decide +kernel
theorem dL_law_200 : decode mL_law.2.1 200 = .ok (.iconst 0, 1) := by decide +kernel
theorem dL_law_201 : decode mL_law.2.1 201 = .ok (.ireturn, 1) := by decide +kernel
theorem dL_law_202 : decode mL_law.2.1 202 = .ok (.aload_n 1, 1) := by decide +kernel
theorem dL_law_203 : decode mL_law.2.1 203 = .ok (.aload_n 0, 1) := by decide +kernel
theorem dL_law_204 : decode mL_law.2.1 204 = .ok (.iload_n 3, 1) := by decide +kernel
theorem dL_law_205 : decode mL_law.2.1 205 = .ok (.iconst 1, 1) := by decide +kernel
theorem dL_law_206 : decode mL_law.2.1 206 = .ok (.iadd, 1) := by decide +kernel
theorem dL_law_207 : decode mL_law.2.1 207 = .ok (.iaload, 1) := by decide +kernel
theorem dL_law_208 : decode mL_law.2.1 208 = .ok (.aload_n 0, 1) := by decide +kernel
theorem dL_law_209 : decode mL_law.2.1 209 = .ok (.iload_n 3, 1) := by decide +kernel
theorem dL_law_210 : decode mL_law.2.1 210 = .ok (.iconst 2, 1) := by decide +kernel
theorem dL_law_211 : decode mL_law.2.1 211 = .ok (.iadd, 1) := by decide +kernel
theorem dL_law_212 : decode mL_law.2.1 212 = .ok (.iaload, 1) := by decide +kernel
theorem dL_law_213 : decode mL_law.2.1 213 = .ok (.aload_n 0, 1) := by decide +kernel
theorem dL_law_214 : decode mL_law.2.1 214 = .ok (.iload_n 3, 1) := by decide +kernel
theorem dL_law_215 : decode mL_law.2.1 215 = .ok (.iconst 3, 1) := by decide +kernel
theorem dL_law_216 : decode mL_law.2.1 216 = .ok (.iadd, 1) := by decide +kernel
theorem dL_law_217 : decode mL_law.2.1 217 = .ok (.iaload, 1) := by decide +kernel
theorem dL_law_218 : decode mL_law.2.1 218 = .ok (.aload_n 0, 1) := by decide +kernel
theorem dL_law_219 : decode mL_law.2.1 219 = .ok (.iload_n 3, 1) := by decide +kernel
theorem dL_law_220 : decode mL_law.2.1 220 = .ok (.iconst 4, 1) := by decide +kernel
theorem dL_law_221 : decode mL_law.2.1 221 = .ok (.iadd, 1) := by decide +kernel
theorem dL_law_222 : decode mL_law.2.1 222 = .ok (.iaload, 1) := by decide +kernel
theorem dL_law_223 : decode mL_law.2.1 223 = .ok (.invokevirtual 22, 3) := by decide +kernel
theorem dL_law_226 : decode mL_law.2.1 226 = .ok (.aload_n 2, 1) := by decide +kernel
theorem dL_law_227 : decode mL_law.2.1 227 = .ok (.aload_n 0, 1) := by decide +kernel
theorem dL_law_228 : decode mL_law.2.1 228 = .ok (.iload_n 3, 1) := by decide +kernel
theorem dL_law_229 : decode mL_law.2.1 229 = .ok (.iconst 1, 1) := by decide +kernel
theorem dL_law_230 : decode mL_law.2.1 230 = .ok (.iadd, 1) := by decide +kernel
theorem dL_law_231 : decode mL_law.2.1 231 = .ok (.iaload, 1) := by decide +kernel
theorem dL_law_232 : decode mL_law.2.1 232 = .ok (.aload_n 0, 1) := by decide +kernel
theorem dL_law_233 : decode mL_law.2.1 233 = .ok (.iload_n 3, 1) := by decide +kernel
theorem dL_law_234 : decode mL_law.2.1 234 = .ok (.iconst 2, 1) := by decide +kernel
theorem dL_law_235 : decode mL_law.2.1 235 = .ok (.iadd, 1) := by decide +kernel
theorem dL_law_236 : decode mL_law.2.1 236 = .ok (.iaload, 1) := by decide +kernel
theorem dL_law_237 : decode mL_law.2.1 237 = .ok (.aload_n 0, 1) := by decide +kernel
theorem dL_law_238 : decode mL_law.2.1 238 = .ok (.iload_n 3, 1) := by decide +kernel
theorem dL_law_239 : decode mL_law.2.1 239 = .ok (.iconst 3, 1) := by decide +kernel
theorem dL_law_240 : decode mL_law.2.1 240 = .ok (.iadd, 1) := by decide +kernel
theorem dL_law_241 : decode mL_law.2.1 241 = .ok (.iaload, 1) := by decide +kernel
theorem dL_law_242 : decode mL_law.2.1 242 = .ok (.aload_n 0, 1) := by decide +kernel
theorem dL_law_243 : decode mL_law.2.1 243 = .ok (.iload_n 3, 1) := by decide +kernel
theorem dL_law_244 : decode mL_law.2.1 244 = .ok (.iconst 4, 1) := by decide +kernel
theorem dL_law_245 : decode mL_law.2.1 245 = .ok (.iadd, 1) := by decide +kernel
theorem dL_law_246 : decode mL_law.2.1 246 = .ok (.iaload, 1) := by decide +kernel
theorem dL_law_247 : decode mL_law.2.1 247 = .ok (.invokevirtual 25, 3) := by decide +kernel
theorem dL_law_250 : decode mL_law.2.1 250 = .ok (.if_icmp .eq 319, 3) := by decide +kernel
theorem dL_law_253 : decode mL_law.2.1 253 = .ok (.iconst 0, 1) := by decide +kernel
theorem dL_law_254 : decode mL_law.2.1 254 = .ok (.ireturn, 1) := by decide +kernel
theorem dL_law_255 : decode mL_law.2.1 255 = .ok (.aload_n 1, 1) := by decide +kernel
theorem dL_law_256 : decode mL_law.2.1 256 = .ok (.aload_n 0, 1) := by decide +kernel
theorem dL_law_257 : decode mL_law.2.1 257 = .ok (.iload_n 3, 1) := by decide +kernel
theorem dL_law_258 : decode mL_law.2.1 258 = .ok (.iconst 1, 1) := by decide +kernel
theorem dL_law_259 : decode mL_law.2.1 259 = .ok (.iadd, 1) := by decide +kernel
theorem dL_law_260 : decode mL_law.2.1 260 = .ok (.iaload, 1) := by decide +kernel
theorem dL_law_261 : decode mL_law.2.1 261 = .ok (.aload_n 0, 1) := by decide +kernel
theorem dL_law_262 : decode mL_law.2.1 262 = .ok (.iload_n 3, 1) := by decide +kernel
theorem dL_law_263 : decode mL_law.2.1 263 = .ok (.iconst 2, 1) := by decide +kernel
theorem dL_law_264 : decode mL_law.2.1 264 = .ok (.iadd, 1) := by decide +kernel
theorem dL_law_265 : decode mL_law.2.1 265 = .ok (.iaload, 1) := by decide +kernel
theorem dL_law_266 : decode mL_law.2.1 266 = .ok (.aload_n 0, 1) := by decide +kernel
theorem dL_law_267 : decode mL_law.2.1 267 = .ok (.iload_n 3, 1) := by decide +kernel
theorem dL_law_268 : decode mL_law.2.1 268 = .ok (.iconst 3, 1) := by decide +kernel
theorem dL_law_269 : decode mL_law.2.1 269 = .ok (.iadd, 1) := by decide +kernel
theorem dL_law_270 : decode mL_law.2.1 270 = .ok (.iaload, 1) := by decide +kernel
theorem dL_law_271 : decode mL_law.2.1 271 = .ok (.aload_n 0, 1) := by decide +kernel
theorem dL_law_272 : decode mL_law.2.1 272 = .ok (.iload_n 3, 1) := by decide +kernel
theorem dL_law_273 : decode mL_law.2.1 273 = .ok (.iconst 4, 1) := by decide +kernel
theorem dL_law_274 : decode mL_law.2.1 274 = .ok (.iadd, 1) := by decide +kernel
theorem dL_law_275 : decode mL_law.2.1 275 = .ok (.iaload, 1) := by decide +kernel
theorem dL_law_276 : decode mL_law.2.1 276 = .ok (.aload_n 0, 1) := by decide +kernel
theorem dL_law_277 : decode mL_law.2.1 277 = .ok (.iload_n 3, 1) := by decide +kernel
theorem dL_law_278 : decode mL_law.2.1 278 = .ok (.iconst 5, 1) := by decide +kernel
theorem dL_law_279 : decode mL_law.2.1 279 = .ok (.iadd, 1) := by decide +kernel
theorem dL_law_280 : decode mL_law.2.1 280 = .ok (.iaload, 1) := by decide +kernel
theorem dL_law_281 : decode mL_law.2.1 281 = .ok (.invokevirtual 26, 3) := by decide +kernel
theorem dL_law_284 : decode mL_law.2.1 284 = .ok (.aload_n 2, 1) := by decide +kernel
theorem dL_law_285 : decode mL_law.2.1 285 = .ok (.aload_n 0, 1) := by decide +kernel
theorem dL_law_286 : decode mL_law.2.1 286 = .ok (.iload_n 3, 1) := by decide +kernel
theorem dL_law_287 : decode mL_law.2.1 287 = .ok (.iconst 1, 1) := by decide +kernel
theorem dL_law_288 : decode mL_law.2.1 288 = .ok (.iadd, 1) := by decide +kernel
theorem dL_law_289 : decode mL_law.2.1 289 = .ok (.iaload, 1) := by decide +kernel
theorem dL_law_290 : decode mL_law.2.1 290 = .ok (.aload_n 0, 1) := by decide +kernel
theorem dL_law_291 : decode mL_law.2.1 291 = .ok (.iload_n 3, 1) := by decide +kernel
theorem dL_law_292 : decode mL_law.2.1 292 = .ok (.iconst 2, 1) := by decide +kernel
theorem dL_law_293 : decode mL_law.2.1 293 = .ok (.iadd, 1) := by decide +kernel
theorem dL_law_294 : decode mL_law.2.1 294 = .ok (.iaload, 1) := by decide +kernel
theorem dL_law_295 : decode mL_law.2.1 295 = .ok (.aload_n 0, 1) := by decide +kernel
theorem dL_law_296 : decode mL_law.2.1 296 = .ok (.iload_n 3, 1) := by decide +kernel
theorem dL_law_297 : decode mL_law.2.1 297 = .ok (.iconst 3, 1) := by decide +kernel
theorem dL_law_298 : decode mL_law.2.1 298 = .ok (.iadd, 1) := by decide +kernel
theorem dL_law_299 : decode mL_law.2.1 299 = .ok (.iaload, 1) := by decide +kernel
theorem dL_law_300 : decode mL_law.2.1 300 = .ok (.aload_n 0, 1) := by decide +kernel
theorem dL_law_301 : decode mL_law.2.1 301 = .ok (.iload_n 3, 1) := by decide +kernel
theorem dL_law_302 : decode mL_law.2.1 302 = .ok (.iconst 4, 1) := by decide +kernel
theorem dL_law_303 : decode mL_law.2.1 303 = .ok (.iadd, 1) := by decide +kernel
theorem dL_law_304 : decode mL_law.2.1 304 = .ok (.iaload, 1) := by decide +kernel
theorem dL_law_305 : decode mL_law.2.1 305 = .ok (.aload_n 0, 1) := by decide +kernel
theorem dL_law_306 : decode mL_law.2.1 306 = .ok (.iload_n 3, 1) := by decide +kernel
theorem dL_law_307 : decode mL_law.2.1 307 = .ok (.iconst 5, 1) := by decide +kernel
theorem dL_law_308 : decode mL_law.2.1 308 = .ok (.iadd, 1) := by decide +kernel
theorem dL_law_309 : decode mL_law.2.1 309 = .ok (.iaload, 1) := by decide +kernel
theorem dL_law_310 : decode mL_law.2.1 310 = .ok (.invokevirtual 30, 3) := by decide +kernel
theorem dL_law_313 : decode mL_law.2.1 313 = .ok (.if_icmp .eq 256, 3) := by decide +kernel
theorem dL_law_316 : decode mL_law.2.1 316 = .ok (.iconst 0, 1) := by decide +kernel
theorem dL_law_317 : decode mL_law.2.1 317 = .ok (.ireturn, 1) := by decide +kernel
theorem dL_law_318 : decode mL_law.2.1 318 = .ok (.aload_n 1, 1) := by decide +kernel
theorem dL_law_319 : decode mL_law.2.1 319 = .ok (.aload_n 0, 1) := by decide +kernel
theorem dL_law_320 : decode mL_law.2.1 320 = .ok (.iload_n 3, 1) := by decide +kernel
theorem dL_law_321 : decode mL_law.2.1 321 = .ok (.iconst 1, 1) := by decide +kernel
theorem dL_law_322 : decode mL_law.2.1 322 = .ok (.iadd, 1) := by decide +kernel
theorem dL_law_323 : decode mL_law.2.1 323 = .ok (.iaload, 1) := by decide +kernel
theorem dL_law_324 : decode mL_law.2.1 324 = .ok (.aload_n 0, 1) := by decide +kernel
theorem dL_law_325 : decode mL_law.2.1 325 = .ok (.iload_n 3, 1) := by decide +kernel
theorem dL_law_326 : decode mL_law.2.1 326 = .ok (.iconst 2, 1) := by decide +kernel
theorem dL_law_327 : decode mL_law.2.1 327 = .ok (.iadd, 1) := by decide +kernel
theorem dL_law_328 : decode mL_law.2.1 328 = .ok (.iaload, 1) := by decide +kernel
theorem dL_law_329 : decode mL_law.2.1 329 = .ok (.ifCond .eq 7, 3) := by decide +kernel
theorem dL_law_332 : decode mL_law.2.1 332 = .ok (.iconst 1, 1) := by decide +kernel
theorem dL_law_333 : decode mL_law.2.1 333 = .ok (.goto 4, 3) := by decide +kernel
theorem dL_law_336 : decode mL_law.2.1 336 = .ok (.iconst 0, 1) := by decide +kernel
theorem dL_law_337 : decode mL_law.2.1 337 = .ok (.invokevirtual 31, 3) := by decide +kernel
theorem dL_law_340 : decode mL_law.2.1 340 = .ok (.aload_n 2, 1) := by decide +kernel
theorem dL_law_341 : decode mL_law.2.1 341 = .ok (.aload_n 0, 1) := by decide +kernel
theorem dL_law_342 : decode mL_law.2.1 342 = .ok (.iload_n 3, 1) := by decide +kernel
theorem dL_law_343 : decode mL_law.2.1 343 = .ok (.iconst 1, 1) := by decide +kernel
theorem dL_law_344 : decode mL_law.2.1 344 = .ok (.iadd, 1) := by decide +kernel
theorem dL_law_345 : decode mL_law.2.1 345 = .ok (.iaload, 1) := by decide +kernel
theorem dL_law_346 : decode mL_law.2.1 346 = .ok (.aload_n 0, 1) := by decide +kernel
theorem dL_law_347 : decode mL_law.2.1 347 = .ok (.iload_n 3, 1) := by decide +kernel
theorem dL_law_348 : decode mL_law.2.1 348 = .ok (.iconst 2, 1) := by decide +kernel
theorem dL_law_349 : decode mL_law.2.1 349 = .ok (.iadd, 1) := by decide +kernel
theorem dL_law_350 : decode mL_law.2.1 350 = .ok (.iaload, 1) := by decide +kernel
theorem dL_law_351 : decode mL_law.2.1 351 = .ok (.ifCond .eq 7, 3) := by decide +kernel
theorem dL_law_354 : decode mL_law.2.1 354 = .ok (.iconst 1, 1) := by decide +kernel
theorem dL_law_355 : decode mL_law.2.1 355 = .ok (.goto 4, 3) := by decide +kernel
theorem dL_law_358 : decode mL_law.2.1 358 = .ok (.iconst 0, 1) := by decide +kernel
theorem dL_law_359 : decode mL_law.2.1 359 = .ok (.invokevirtual 35, 3) := by decide +kernel
theorem dL_law_362 : decode mL_law.2.1 362 = .ok (.if_icmp .eq 207, 3) := by decide +kernel
theorem dL_law_365 : decode mL_law.2.1 365 = .ok (.iconst 0, 1) := by decide +kernel
theorem dL_law_366 : decode mL_law.2.1 366 = .ok (.ireturn, 1) := by decide +kernel
theorem dL_law_367 : decode mL_law.2.1 367 = .ok (.aload_n 1, 1) := by decide +kernel
theorem dL_law_368 : decode mL_law.2.1 368 = .ok (.aload_n 0, 1) := by decide +kernel
theorem dL_law_369 : decode mL_law.2.1 369 = .ok (.iload_n 3, 1) := by decide +kernel
theorem dL_law_370 : decode mL_law.2.1 370 = .ok (.iconst 1, 1) := by decide +kernel
theorem dL_law_371 : decode mL_law.2.1 371 = .ok (.iadd, 1) := by decide +kernel
theorem dL_law_372 : decode mL_law.2.1 372 = .ok (.iaload, 1) := by decide +kernel
theorem dL_law_373 : decode mL_law.2.1 373 = .ok (.aload_n 0, 1) := by decide +kernel
theorem dL_law_374 : decode mL_law.2.1 374 = .ok (.iload_n 3, 1) := by decide +kernel
theorem dL_law_375 : decode mL_law.2.1 375 = .ok (.iconst 2, 1) := by decide +kernel
theorem dL_law_376 : decode mL_law.2.1 376 = .ok (.iadd, 1) := by decide +kernel
theorem dL_law_377 : decode mL_law.2.1 377 = .ok (.iaload, 1) := by decide +kernel
theorem dL_law_378 : decode mL_law.2.1 378 = .ok (.aload_n 0, 1) := by decide +kernel
theorem dL_law_379 : decode mL_law.2.1 379 = .ok (.iload_n 3, 1) := by decide +kernel
theorem dL_law_380 : decode mL_law.2.1 380 = .ok (.iconst 3, 1) := by decide +kernel
theorem dL_law_381 : decode mL_law.2.1 381 = .ok (.iadd, 1) := by decide +kernel
theorem dL_law_382 : decode mL_law.2.1 382 = .ok (.iaload, 1) := by decide +kernel
theorem dL_law_383 : decode mL_law.2.1 383 = .ok (.aload_n 0, 1) := by decide +kernel
theorem dL_law_384 : decode mL_law.2.1 384 = .ok (.iload_n 3, 1) := by decide +kernel
theorem dL_law_385 : decode mL_law.2.1 385 = .ok (.iconst 4, 1) := by decide +kernel
theorem dL_law_386 : decode mL_law.2.1 386 = .ok (.iadd, 1) := by decide +kernel
theorem dL_law_387 : decode mL_law.2.1 387 = .ok (.iaload, 1) := by decide +kernel
theorem dL_law_388 : decode mL_law.2.1 388 = .ok (.invokevirtual 36, 3) := by decide +kernel
theorem dL_law_391 : decode mL_law.2.1 391 = .ok (.aload_n 2, 1) := by decide +kernel
theorem dL_law_392 : decode mL_law.2.1 392 = .ok (.aload_n 0, 1) := by decide +kernel
theorem dL_law_393 : decode mL_law.2.1 393 = .ok (.iload_n 3, 1) := by decide +kernel
theorem dL_law_394 : decode mL_law.2.1 394 = .ok (.iconst 1, 1) := by decide +kernel
theorem dL_law_395 : decode mL_law.2.1 395 = .ok (.iadd, 1) := by decide +kernel
theorem dL_law_396 : decode mL_law.2.1 396 = .ok (.iaload, 1) := by decide +kernel
theorem dL_law_397 : decode mL_law.2.1 397 = .ok (.aload_n 0, 1) := by decide +kernel
theorem dL_law_398 : decode mL_law.2.1 398 = .ok (.iload_n 3, 1) := by decide +kernel
theorem dL_law_399 : decode mL_law.2.1 399 = .ok (.iconst 2, 1) := by decide +kernel
theorem dL_law_400 : decode mL_law.2.1 400 = .ok (.iadd, 1) := by decide +kernel
theorem dL_law_401 : decode mL_law.2.1 401 = .ok (.iaload, 1) := by decide +kernel
theorem dL_law_402 : decode mL_law.2.1 402 = .ok (.aload_n 0, 1) := by decide +kernel
theorem dL_law_403 : decode mL_law.2.1 403 = .ok (.iload_n 3, 1) := by decide +kernel
theorem dL_law_404 : decode mL_law.2.1 404 = .ok (.iconst 3, 1) := by decide +kernel
theorem dL_law_405 : decode mL_law.2.1 405 = .ok (.iadd, 1) := by decide +kernel
theorem dL_law_406 : decode mL_law.2.1 406 = .ok (.iaload, 1) := by decide +kernel
theorem dL_law_407 : decode mL_law.2.1 407 = .ok (.aload_n 0, 1) := by decide +kernel
theorem dL_law_408 : decode mL_law.2.1 408 = .ok (.iload_n 3, 1) := by decide +kernel
theorem dL_law_409 : decode mL_law.2.1 409 = .ok (.iconst 4, 1) := by decide +kernel
theorem dL_law_410 : decode mL_law.2.1 410 = .ok (.iadd, 1) := by decide +kernel
theorem dL_law_411 : decode mL_law.2.1 411 = .ok (.iaload, 1) := by decide +kernel
theorem dL_law_412 : decode mL_law.2.1 412 = .ok (.invokevirtual 39, 3) := by decide +kernel
theorem dL_law_415 : decode mL_law.2.1 415 = .ok (.if_icmp .eq 154, 3) := by decide +kernel
theorem dL_law_418 : decode mL_law.2.1 418 = .ok (.iconst 0, 1) := by decide +kernel
theorem dL_law_419 : decode mL_law.2.1 419 = .ok (.ireturn, 1) := by decide +kernel
theorem dL_law_420 : decode mL_law.2.1 420 = .ok (.aload_n 1, 1) := by decide +kernel
theorem dL_law_421 : decode mL_law.2.1 421 = .ok (.invokevirtual 40, 3) := by decide +kernel
theorem dL_law_424 : decode mL_law.2.1 424 = .ok (.aload_n 2, 1) := by decide +kernel
theorem dL_law_425 : decode mL_law.2.1 425 = .ok (.invokevirtual 44, 3) := by decide +kernel
theorem dL_law_428 : decode mL_law.2.1 428 = .ok (.if_icmp .eq 141, 3) := by decide +kernel
theorem dL_law_431 : decode mL_law.2.1 431 = .ok (.iconst 0, 1) := by decide +kernel
theorem dL_law_432 : decode mL_law.2.1 432 = .ok (.ireturn, 1) := by decide +kernel
theorem dL_law_433 : decode mL_law.2.1 433 = .ok (.aload_n 1, 1) := by decide +kernel
theorem dL_law_434 : decode mL_law.2.1 434 = .ok (.invokevirtual 45, 3) := by decide +kernel
theorem dL_law_437 : decode mL_law.2.1 437 = .ok (.aload_n 2, 1) := by decide +kernel
theorem dL_law_438 : decode mL_law.2.1 438 = .ok (.invokevirtual 48, 3) := by decide +kernel
theorem dL_law_441 : decode mL_law.2.1 441 = .ok (.if_icmp .eq 128, 3) := by decide +kernel
theorem dL_law_444 : decode mL_law.2.1 444 = .ok (.iconst 0, 1) := by decide +kernel
theorem dL_law_445 : decode mL_law.2.1 445 = .ok (.ireturn, 1) := by decide +kernel
theorem dL_law_446 : decode mL_law.2.1 446 = .ok (.aload_n 1, 1) := by decide +kernel
theorem dL_law_447 : decode mL_law.2.1 447 = .ok (.aload_n 0, 1) := by decide +kernel
theorem dL_law_448 : decode mL_law.2.1 448 = .ok (.iload_n 3, 1) := by decide +kernel
theorem dL_law_449 : decode mL_law.2.1 449 = .ok (.iconst 1, 1) := by decide +kernel
theorem dL_law_450 : decode mL_law.2.1 450 = .ok (.iadd, 1) := by decide +kernel
theorem dL_law_451 : decode mL_law.2.1 451 = .ok (.iaload, 1) := by decide +kernel
theorem dL_law_452 : decode mL_law.2.1 452 = .ok (.aload_n 0, 1) := by decide +kernel
theorem dL_law_453 : decode mL_law.2.1 453 = .ok (.iload_n 3, 1) := by decide +kernel
theorem dL_law_454 : decode mL_law.2.1 454 = .ok (.iconst 2, 1) := by decide +kernel
theorem dL_law_455 : decode mL_law.2.1 455 = .ok (.iadd, 1) := by decide +kernel
theorem dL_law_456 : decode mL_law.2.1 456 = .ok (.iaload, 1) := by decide +kernel
theorem dL_law_457 : decode mL_law.2.1 457 = .ok (.aload_n 0, 1) := by decide +kernel
theorem dL_law_458 : decode mL_law.2.1 458 = .ok (.iload_n 3, 1) := by decide +kernel
theorem dL_law_459 : decode mL_law.2.1 459 = .ok (.iconst 3, 1) := by decide +kernel
theorem dL_law_460 : decode mL_law.2.1 460 = .ok (.iadd, 1) := by decide +kernel
theorem dL_law_461 : decode mL_law.2.1 461 = .ok (.iaload, 1) := by decide +kernel
theorem dL_law_462 : decode mL_law.2.1 462 = .ok (.invokevirtual 49, 3) := by decide +kernel
theorem dL_law_465 : decode mL_law.2.1 465 = .ok (.aload_n 2, 1) := by decide +kernel
theorem dL_law_466 : decode mL_law.2.1 466 = .ok (.aload_n 0, 1) := by decide +kernel
theorem dL_law_467 : decode mL_law.2.1 467 = .ok (.iload_n 3, 1) := by decide +kernel
theorem dL_law_468 : decode mL_law.2.1 468 = .ok (.iconst 1, 1) := by decide +kernel
theorem dL_law_469 : decode mL_law.2.1 469 = .ok (.iadd, 1) := by decide +kernel
theorem dL_law_470 : decode mL_law.2.1 470 = .ok (.iaload, 1) := by decide +kernel
theorem dL_law_471 : decode mL_law.2.1 471 = .ok (.aload_n 0, 1) := by decide +kernel
theorem dL_law_472 : decode mL_law.2.1 472 = .ok (.iload_n 3, 1) := by decide +kernel
theorem dL_law_473 : decode mL_law.2.1 473 = .ok (.iconst 2, 1) := by decide +kernel
theorem dL_law_474 : decode mL_law.2.1 474 = .ok (.iadd, 1) := by decide +kernel
theorem dL_law_475 : decode mL_law.2.1 475 = .ok (.iaload, 1) := by decide +kernel
theorem dL_law_476 : decode mL_law.2.1 476 = .ok (.aload_n 0, 1) := by decide +kernel
theorem dL_law_477 : decode mL_law.2.1 477 = .ok (.iload_n 3, 1) := by decide +kernel
theorem dL_law_478 : decode mL_law.2.1 478 = .ok (.iconst 3, 1) := by decide +kernel
theorem dL_law_479 : decode mL_law.2.1 479 = .ok (.iadd, 1) := by decide +kernel
theorem dL_law_480 : decode mL_law.2.1 480 = .ok (.iaload, 1) := by decide +kernel
theorem dL_law_481 : decode mL_law.2.1 481 = .ok (.invokevirtual 53, 3) := by decide +kernel
theorem dL_law_484 : decode mL_law.2.1 484 = .ok (.lcmp, 1) := by decide +kernel
theorem dL_law_485 : decode mL_law.2.1 485 = .ok (.ifCond .eq 84, 3) := by decide +kernel
theorem dL_law_488 : decode mL_law.2.1 488 = .ok (.iconst 0, 1) := by decide +kernel
theorem dL_law_489 : decode mL_law.2.1 489 = .ok (.ireturn, 1) := by decide +kernel
theorem dL_law_490 : decode mL_law.2.1 490 = .ok (.aload_n 1, 1) := by decide +kernel
theorem dL_law_491 : decode mL_law.2.1 491 = .ok (.aload_n 0, 1) := by decide +kernel
theorem dL_law_492 : decode mL_law.2.1 492 = .ok (.iload_n 3, 1) := by decide +kernel
theorem dL_law_493 : decode mL_law.2.1 493 = .ok (.iconst 1, 1) := by decide +kernel
theorem dL_law_494 : decode mL_law.2.1 494 = .ok (.iadd, 1) := by decide +kernel
theorem dL_law_495 : decode mL_law.2.1 495 = .ok (.iaload, 1) := by decide +kernel
theorem dL_law_496 : decode mL_law.2.1 496 = .ok (.invokevirtual 54, 3) := by decide +kernel
theorem dL_law_499 : decode mL_law.2.1 499 = .ok (.aload_n 2, 1) := by decide +kernel
theorem dL_law_500 : decode mL_law.2.1 500 = .ok (.aload_n 0, 1) := by decide +kernel
theorem dL_law_501 : decode mL_law.2.1 501 = .ok (.iload_n 3, 1) := by decide +kernel
theorem dL_law_502 : decode mL_law.2.1 502 = .ok (.iconst 1, 1) := by decide +kernel
theorem dL_law_503 : decode mL_law.2.1 503 = .ok (.iadd, 1) := by decide +kernel
theorem dL_law_504 : decode mL_law.2.1 504 = .ok (.iaload, 1) := by decide +kernel
theorem dL_law_505 : decode mL_law.2.1 505 = .ok (.invokevirtual 58, 3) := by decide +kernel
theorem dL_law_508 : decode mL_law.2.1 508 = .ok (.if_icmp .eq 61, 3) := by decide +kernel
theorem dL_law_511 : decode mL_law.2.1 511 = .ok (.iconst 0, 1) := by decide +kernel
theorem dL_law_512 : decode mL_law.2.1 512 = .ok (.ireturn, 1) := by decide +kernel
theorem dL_law_513 : decode mL_law.2.1 513 = .ok (.aload_n 1, 1) := by decide +kernel
theorem dL_law_514 : decode mL_law.2.1 514 = .ok (.aload_n 0, 1) := by decide +kernel
theorem dL_law_515 : decode mL_law.2.1 515 = .ok (.iload_n 3, 1) := by decide +kernel
theorem dL_law_516 : decode mL_law.2.1 516 = .ok (.iconst 1, 1) := by decide +kernel
theorem dL_law_517 : decode mL_law.2.1 517 = .ok (.iadd, 1) := by decide +kernel
theorem dL_law_518 : decode mL_law.2.1 518 = .ok (.iaload, 1) := by decide +kernel
theorem dL_law_519 : decode mL_law.2.1 519 = .ok (.aload_n 0, 1) := by decide +kernel
theorem dL_law_520 : decode mL_law.2.1 520 = .ok (.iload_n 3, 1) := by decide +kernel
theorem dL_law_521 : decode mL_law.2.1 521 = .ok (.iconst 2, 1) := by decide +kernel
theorem dL_law_522 : decode mL_law.2.1 522 = .ok (.iadd, 1) := by decide +kernel
theorem dL_law_523 : decode mL_law.2.1 523 = .ok (.iaload, 1) := by decide +kernel
theorem dL_law_524 : decode mL_law.2.1 524 = .ok (.invokevirtual 59, 3) := by decide +kernel
theorem dL_law_527 : decode mL_law.2.1 527 = .ok (.aload_n 2, 1) := by decide +kernel
theorem dL_law_528 : decode mL_law.2.1 528 = .ok (.aload_n 0, 1) := by decide +kernel
theorem dL_law_529 : decode mL_law.2.1 529 = .ok (.iload_n 3, 1) := by decide +kernel
theorem dL_law_530 : decode mL_law.2.1 530 = .ok (.iconst 1, 1) := by decide +kernel
theorem dL_law_531 : decode mL_law.2.1 531 = .ok (.iadd, 1) := by decide +kernel
theorem dL_law_532 : decode mL_law.2.1 532 = .ok (.iaload, 1) := by decide +kernel
theorem dL_law_533 : decode mL_law.2.1 533 = .ok (.aload_n 0, 1) := by decide +kernel
theorem dL_law_534 : decode mL_law.2.1 534 = .ok (.iload_n 3, 1) := by decide +kernel
theorem dL_law_535 : decode mL_law.2.1 535 = .ok (.iconst 2, 1) := by decide +kernel
theorem dL_law_536 : decode mL_law.2.1 536 = .ok (.iadd, 1) := by decide +kernel
theorem dL_law_537 : decode mL_law.2.1 537 = .ok (.iaload, 1) := by decide +kernel
theorem dL_law_538 : decode mL_law.2.1 538 = .ok (.invokevirtual 63, 3) := by decide +kernel
theorem dL_law_541 : decode mL_law.2.1 541 = .ok (.if_icmp .eq 28, 3) := by decide +kernel
theorem dL_law_544 : decode mL_law.2.1 544 = .ok (.iconst 0, 1) := by decide +kernel
theorem dL_law_545 : decode mL_law.2.1 545 = .ok (.ireturn, 1) := by decide +kernel
theorem dL_law_546 : decode mL_law.2.1 546 = .ok (.aload_n 1, 1) := by decide +kernel
theorem dL_law_547 : decode mL_law.2.1 547 = .ok (.aload_n 0, 1) := by decide +kernel
theorem dL_law_548 : decode mL_law.2.1 548 = .ok (.iload_n 3, 1) := by decide +kernel
theorem dL_law_549 : decode mL_law.2.1 549 = .ok (.iconst 1, 1) := by decide +kernel
theorem dL_law_550 : decode mL_law.2.1 550 = .ok (.iadd, 1) := by decide +kernel
theorem dL_law_551 : decode mL_law.2.1 551 = .ok (.iaload, 1) := by decide +kernel
theorem dL_law_552 : decode mL_law.2.1 552 = .ok (.invokevirtual 64, 3) := by decide +kernel
theorem dL_law_555 : decode mL_law.2.1 555 = .ok (.aload_n 2, 1) := by decide +kernel
theorem dL_law_556 : decode mL_law.2.1 556 = .ok (.aload_n 0, 1) := by decide +kernel
theorem dL_law_557 : decode mL_law.2.1 557 = .ok (.iload_n 3, 1) := by decide +kernel
theorem dL_law_558 : decode mL_law.2.1 558 = .ok (.iconst 1, 1) := by decide +kernel
theorem dL_law_559 : decode mL_law.2.1 559 = .ok (.iadd, 1) := by decide +kernel
theorem dL_law_560 : decode mL_law.2.1 560 = .ok (.iaload, 1) := by decide +kernel
theorem dL_law_561 : decode mL_law.2.1 561 = .ok (.invokevirtual 67, 3) := by decide +kernel
theorem dL_law_564 : decode mL_law.2.1 564 = .ok (.if_icmp .eq 5, 3) := by decide +kernel
theorem dL_law_567 : decode mL_law.2.1 567 = .ok (.iconst 0, 1) := by decide +kernel
theorem dL_law_568 : decode mL_law.2.1 568 = .ok (.ireturn, 1) := by decide +kernel
theorem dL_law_569 : decode mL_law.2.1 569 = .ok (.iinc 3 6, 3) := by decide +kernel
theorem dL_law_572 : decode mL_law.2.1 572 = .ok (.goto (-554), 3) := by decide +kernel
theorem dL_law_575 : decode mL_law.2.1 575 = .ok (.iconst 1, 1) := by decide +kernel
theorem dL_law_576 : decode mL_law.2.1 576 = .ok (.ireturn, 1) := by decide +kernel
