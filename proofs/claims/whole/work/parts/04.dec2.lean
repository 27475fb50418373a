theorem dX6_copyRule_16 : decode cX6_copyRule 16 = .ok (.iload_n 1, 1) := by decide +kernel
theorem dX6_copyRule_17 : decode cX6_copyRule 17 = .ok (.aload_n 0, 1) := by decide +kernel
theorem dX6_copyRule_18 : decode cX6_copyRule 18 = .ok (.getfield 19, 3) := by decide +kernel
theorem dX6_copyRule_21 : decode cX6_copyRule 21 = .ok (.iload_n 2, 1) := by decide +kernel
theorem dX6_copyRule_22 : decode cX6_copyRule 22 = .ok (.iaload, 1) := by decide +kernel
theorem dX6_copyRule_23 : decode cX6_copyRule 23 = .ok (.iastore, 1) := by decide +kernel
theorem dX6_copyRule_24 : decode cX6_copyRule 24 = .ok (.aload_n 0, 1) := by decide +kernel
theorem dX6_copyRule_25 : decode cX6_copyRule 25 = .ok (.getfield 34, 3) := by decide +kernel
theorem dX6_copyRule_28 : decode cX6_copyRule 28 = .ok (.iload_n 1, 1) := by decide +kernel
theorem dX6_copyRule_29 : decode cX6_copyRule 29 = .ok (.aload_n 0, 1) := by decide +kernel
theorem dX6_copyRule_30 : decode cX6_copyRule 30 = .ok (.getfield 34, 3) := by decide +kernel
theorem dX6_copyRule_33 : decode cX6_copyRule 33 = .ok (.iload_n 2, 1) := by decide +kernel
theorem dX6_copyRule_34 : decode cX6_copyRule 34 = .ok (.iaload, 1) := by decide +kernel
theorem dX6_copyRule_35 : decode cX6_copyRule 35 = .ok (.iastore, 1) := by decide +kernel
theorem dX6_copyRule_36 : decode cX6_copyRule 36 = .ok (.iconst 0, 1) := by decide +kernel
theorem dX6_copyRule_37 : decode cX6_copyRule 37 = .ok (.istore_n 3, 1) := by decide +kernel
theorem dX6_copyRule_38 : decode cX6_copyRule 38 = .ok (.iload_n 3, 1) := by decide +kernel
theorem dX6_copyRule_39 : decode cX6_copyRule 39 = .ok (.iconst 3, 1) := by decide +kernel
theorem dX6_copyRule_40 : decode cX6_copyRule 40 = .ok (.if_icmp .ge 29, 3) := by decide +kernel
theorem dX6_copyRule_43 : decode cX6_copyRule 43 = .ok (.aload_n 0, 1) := by decide +kernel
theorem dX6_copyRule_44 : decode cX6_copyRule 44 = .ok (.getfield 16, 3) := by decide +kernel
theorem dX6_copyRule_47 : decode cX6_copyRule 47 = .ok (.iconst 3, 1) := by decide +kernel
theorem dX6_copyRule_48 : decode cX6_copyRule 48 = .ok (.iload_n 1, 1) := by decide +kernel
theorem dX6_copyRule_49 : decode cX6_copyRule 49 = .ok (.imul, 1) := by decide +kernel
theorem dX6_copyRule_50 : decode cX6_copyRule 50 = .ok (.iload_n 3, 1) := by decide +kernel
theorem dX6_copyRule_51 : decode cX6_copyRule 51 = .ok (.iadd, 1) := by decide +kernel
theorem dX6_copyRule_52 : decode cX6_copyRule 52 = .ok (.aload_n 0, 1) := by decide +kernel
theorem dX6_copyRule_53 : decode cX6_copyRule 53 = .ok (.getfield 16, 3) := by decide +kernel
theorem dX6_copyRule_56 : decode cX6_copyRule 56 = .ok (.iconst 3, 1) := by decide +kernel
theorem dX6_copyRule_57 : decode cX6_copyRule 57 = .ok (.iload_n 2, 1) := by decide +kernel
theorem dX6_copyRule_58 : decode cX6_copyRule 58 = .ok (.imul, 1) := by decide +kernel
theorem dX6_copyRule_59 : decode cX6_copyRule 59 = .ok (.iload_n 3, 1) := by decide +kernel
theorem dX6_copyRule_60 : decode cX6_copyRule 60 = .ok (.iadd, 1) := by decide +kernel
theorem dX6_copyRule_61 : decode cX6_copyRule 61 = .ok (.iaload, 1) := by decide +kernel
theorem dX6_copyRule_62 : decode cX6_copyRule 62 = .ok (.iastore, 1) := by decide +kernel
theorem dX6_copyRule_63 : decode cX6_copyRule 63 = .ok (.iinc 3 1, 3) := by decide +kernel
theorem dX6_copyRule_66 : decode cX6_copyRule 66 = .ok (.goto (-28), 3) := by decide +kernel
theorem dX6_copyRule_69 : decode cX6_copyRule 69 = .ok (.iconst 0, 1) := by decide +kernel
theorem dX6_copyRule_70 : decode cX6_copyRule 70 = .ok (.istore_n 3, 1) := by decide +kernel
theorem dX6_copyRule_71 : decode cX6_copyRule 71 = .ok (.iload_n 3, 1) := by decide +kernel
theorem dX6_copyRule_72 : decode cX6_copyRule 72 = .ok (.iconst 4, 1) := by decide +kernel
theorem dX6_copyRule_73 : decode cX6_copyRule 73 = .ok (.if_icmp .ge 49, 3) := by decide +kernel
theorem dX6_copyRule_76 : decode cX6_copyRule 76 = .ok (.aload_n 0, 1) := by decide +kernel
theorem dX6_copyRule_77 : decode cX6_copyRule 77 = .ok (.getfield 22, 3) := by decide +kernel
theorem dX6_copyRule_80 : decode cX6_copyRule 80 = .ok (.iconst 4, 1) := by decide +kernel
theorem dX6_copyRule_81 : decode cX6_copyRule 81 = .ok (.iload_n 1, 1) := by decide +kernel
theorem dX6_copyRule_82 : decode cX6_copyRule 82 = .ok (.imul, 1) := by decide +kernel
theorem dX6_copyRule_83 : decode cX6_copyRule 83 = .ok (.iload_n 3, 1) := by decide +kernel
theorem dX6_copyRule_84 : decode cX6_copyRule 84 = .ok (.iadd, 1) := by decide +kernel
theorem dX6_copyRule_85 : decode cX6_copyRule 85 = .ok (.aload_n 0, 1) := by decide +kernel
theorem dX6_copyRule_86 : decode cX6_copyRule 86 = .ok (.getfield 22, 3) := by decide +kernel
theorem dX6_copyRule_89 : decode cX6_copyRule 89 = .ok (.iconst 4, 1) := by decide +kernel
theorem dX6_copyRule_90 : decode cX6_copyRule 90 = .ok (.iload_n 2, 1) := by decide +kernel
theorem dX6_copyRule_91 : decode cX6_copyRule 91 = .ok (.imul, 1) := by decide +kernel
theorem dX6_copyRule_92 : decode cX6_copyRule 92 = .ok (.iload_n 3, 1) := by decide +kernel
theorem dX6_copyRule_93 : decode cX6_copyRule 93 = .ok (.iadd, 1) := by decide +kernel
theorem dX6_copyRule_94 : decode cX6_copyRule 94 = .ok (.iaload, 1) := by decide +kernel
theorem dX6_copyRule_95 : decode cX6_copyRule 95 = .ok (.iastore, 1) := by decide +kernel
theorem dX6_copyRule_96 : decode cX6_copyRule 96 = .ok (.aload_n 0, 1) := by decide +kernel
theorem dX6_copyRule_97 : decode cX6_copyRule 97 = .ok (.getfield 25, 3) := by decide +kernel
theorem dX6_copyRule_100 : decode cX6_copyRule 100 = .ok (.iconst 4, 1) := by decide +kernel
theorem dX6_copyRule_101 : decode cX6_copyRule 101 = .ok (.iload_n 1, 1) := by decide +kernel
theorem dX6_copyRule_102 : decode cX6_copyRule 102 = .ok (.imul, 1) := by decide +kernel
theorem dX6_copyRule_103 : decode cX6_copyRule 103 = .ok (.iload_n 3, 1) := by decide +kernel
theorem dX6_copyRule_104 : decode cX6_copyRule 104 = .ok (.iadd, 1) := by decide +kernel
theorem dX6_copyRule_105 : decode cX6_copyRule 105 = .ok (.aload_n 0, 1) := by decide +kernel
theorem dX6_copyRule_106 : decode cX6_copyRule 106 = .ok (.getfield 25, 3) := by decide +kernel
theorem dX6_copyRule_109 : decode cX6_copyRule 109 = .ok (.iconst 4, 1) := by decide +kernel
theorem dX6_copyRule_110 : decode cX6_copyRule 110 = .ok (.iload_n 2, 1) := by decide +kernel
theorem dX6_copyRule_111 : decode cX6_copyRule 111 = .ok (.imul, 1) := by decide +kernel
theorem dX6_copyRule_112 : decode cX6_copyRule 112 = .ok (.iload_n 3, 1) := by decide +kernel
theorem dX6_copyRule_113 : decode cX6_copyRule 113 = .ok (.iadd, 1) := by decide +kernel
theorem dX6_copyRule_114 : decode cX6_copyRule 114 = .ok (.iaload, 1) := by decide +kernel
theorem dX6_copyRule_115 : decode cX6_copyRule 115 = .ok (.iastore, 1) := by decide +kernel
theorem dX6_copyRule_116 : decode cX6_copyRule 116 = .ok (.iinc 3 1, 3) := by decide +kernel
theorem dX6_copyRule_119 : decode cX6_copyRule 119 = .ok (.goto (-48), 3) := by decide +kernel
theorem dX6_copyRule_122 : decode cX6_copyRule 122 = .ok (.iconst 0, 1) := by decide +kernel
theorem dX6_copyRule_123 : decode cX6_copyRule 123 = .ok (.istore_n 3, 1) := by decide +kernel
theorem dX6_copyRule_124 : decode cX6_copyRule 124 = .ok (.iload_n 3, 1) := by decide +kernel
theorem dX6_copyRule_125 : decode cX6_copyRule 125 = .ok (.bipush 12, 2) := by decide +kernel
theorem dX6_copyRule_127 : decode cX6_copyRule 127 = .ok (.if_icmp .ge 53, 3) := by decide +kernel
theorem dX6_copyRule_130 : decode cX6_copyRule 130 = .ok (.aload_n 0, 1) := by decide +kernel
theorem dX6_copyRule_131 : decode cX6_copyRule 131 = .ok (.getfield 28, 3) := by decide +kernel
theorem dX6_copyRule_134 : decode cX6_copyRule 134 = .ok (.bipush 12, 2) := by decide +kernel
theorem dX6_copyRule_136 : decode cX6_copyRule 136 = .ok (.iload_n 1, 1) := by decide +kernel
theorem dX6_copyRule_137 : decode cX6_copyRule 137 = .ok (.imul, 1) := by decide +kernel
theorem dX6_copyRule_138 : decode cX6_copyRule 138 = .ok (.iload_n 3, 1) := by decide +kernel
theorem dX6_copyRule_139 : decode cX6_copyRule 139 = .ok (.iadd, 1) := by decide +kernel
theorem dX6_copyRule_140 : decode cX6_copyRule 140 = .ok (.aload_n 0, 1) := by decide +kernel
theorem dX6_copyRule_141 : decode cX6_copyRule 141 = .ok (.getfield 28, 3) := by decide +kernel
theorem dX6_copyRule_144 : decode cX6_copyRule 144 = .ok (.bipush 12, 2) := by decide +kernel
theorem dX6_copyRule_146 : decode cX6_copyRule 146 = .ok (.iload_n 2, 1) := by decide +kernel
theorem dX6_copyRule_147 : decode cX6_copyRule 147 = .ok (.imul, 1) := by decide +kernel
theorem dX6_copyRule_148 : decode cX6_copyRule 148 = .ok (.iload_n 3, 1) := by decide +kernel
theorem dX6_copyRule_149 : decode cX6_copyRule 149 = .ok (.iadd, 1) := by decide +kernel
theorem dX6_copyRule_150 : decode cX6_copyRule 150 = .ok (.iaload, 1) := by decide +kernel
theorem dX6_copyRule_151 : decode cX6_copyRule 151 = .ok (.iastore, 1) := by decide +kernel
theorem dX6_copyRule_152 : decode cX6_copyRule 152 = .ok (.aload_n 0, 1) := by decide +kernel
theorem dX6_copyRule_153 : decode cX6_copyRule 153 = .ok (.getfield 31, 3) := by decide +kernel
theorem dX6_copyRule_156 : decode cX6_copyRule 156 = .ok (.bipush 12, 2) := by decide +kernel
theorem dX6_copyRule_158 : decode cX6_copyRule 158 = .ok (.iload_n 1, 1) := by decide +kernel
theorem dX6_copyRule_159 : decode cX6_copyRule 159 = .ok (.imul, 1) := by decide +kernel
theorem dX6_copyRule_160 : decode cX6_copyRule 160 = .ok (.iload_n 3, 1) := by decide +kernel
theorem dX6_copyRule_161 : decode cX6_copyRule 161 = .ok (.iadd, 1) := by decide +kernel
theorem dX6_copyRule_162 : decode cX6_copyRule 162 = .ok (.aload_n 0, 1) := by decide +kernel
theorem dX6_copyRule_163 : decode cX6_copyRule 163 = .ok (.getfield 31, 3) := by decide +kernel
theorem dX6_copyRule_166 : decode cX6_copyRule 166 = .ok (.bipush 12, 2) := by decide +kernel
theorem dX6_copyRule_168 : decode cX6_copyRule 168 = .ok (.iload_n 2, 1) := by decide +kernel
theorem dX6_copyRule_169 : decode cX6_copyRule 169 = .ok (.imul, 1) := by decide +kernel
theorem dX6_copyRule_170 : decode cX6_copyRule 170 = .ok (.iload_n 3, 1) := by decide +kernel
theorem dX6_copyRule_171 : decode cX6_copyRule 171 = .ok (.iadd, 1) := by decide +kernel
theorem dX6_copyRule_172 : decode cX6_copyRule 172 = .ok (.iaload, 1) := by decide +kernel
theorem dX6_copyRule_173 : decode cX6_copyRule 173 = .ok (.iastore, 1) := by decide +kernel
theorem dX6_copyRule_174 : decode cX6_copyRule 174 = .ok (.iinc 3 1, 3) := by decide +kernel
theorem dX6_copyRule_177 : decode cX6_copyRule 177 = .ok (.goto (-53), 3) := by decide +kernel
theorem dX6_copyRule_180 : decode cX6_copyRule 180 = .ok (.return_, 1) := by decide +kernel
theorem dX6_removeRule_0 : decode cX6_removeRule 0 = .ok (.aload_n 0, 1) := by decide +kernel
theorem dX6_removeRule_1 : decode cX6_removeRule 1 = .ok (.aload_n 0, 1) := by decide +kernel
theorem dX6_removeRule_2 : decode cX6_removeRule 2 = .ok (.iload_n 1, 1) := by decide +kernel
theorem dX6_removeRule_3 : decode cX6_removeRule 3 = .ok (.invokevirtual 194, 3) := by decide +kernel
theorem dX6_removeRule_6 : decode cX6_removeRule 6 = .ok (.ifCond .eq 7, 3) := by decide +kernel
theorem dX6_removeRule_9 : decode cX6_removeRule 9 = .ok (.iconst 0, 1) := by decide +kernel
theorem dX6_removeRule_10 : decode cX6_removeRule 10 = .ok (.goto 4, 3) := by decide +kernel
theorem dX6_removeRule_13 : decode cX6_removeRule 13 = .ok (.iconst 1, 1) := by decide +kernel
theorem dX6_removeRule_14 : decode cX6_removeRule 14 = .ok (.putfield 117, 3) := by decide +kernel
theorem dX6_removeRule_17 : decode cX6_removeRule 17 = .ok (.aload_n 0, 1) := by decide +kernel
theorem dX6_removeRule_18 : decode cX6_removeRule 18 = .ok (.getfield 117, 3) := by decide +kernel
theorem dX6_removeRule_21 : decode cX6_removeRule 21 = .ok (.ifCond .le 5, 3) := by decide +kernel
theorem dX6_removeRule_24 : decode cX6_removeRule 24 = .ok (.iconst 0, 1) := by decide +kernel
theorem dX6_removeRule_25 : decode cX6_removeRule 25 = .ok (.ireturn, 1) := by decide +kernel
theorem dX6_removeRule_26 : decode cX6_removeRule 26 = .ok (.aload_n 0, 1) := by decide +kernel
theorem dX6_removeRule_27 : decode cX6_removeRule 27 = .ok (.dup, 1) := by decide +kernel
theorem dX6_removeRule_28 : decode cX6_removeRule 28 = .ok (.getfield 188, 3) := by decide +kernel
theorem dX6_removeRule_31 : decode cX6_removeRule 31 = .ok (.iconst 1, 1) := by decide +kernel
theorem dX6_removeRule_32 : decode cX6_removeRule 32 = .ok (.isub, 1) := by decide +kernel
theorem dX6_removeRule_33 : decode cX6_removeRule 33 = .ok (.putfield 188, 3) := by decide +kernel
theorem dX6_removeRule_36 : decode cX6_removeRule 36 = .ok (.iload_n 1, 1) := by decide +kernel
theorem dX6_removeRule_37 : decode cX6_removeRule 37 = .ok (.istore_n 2, 1) := by decide +kernel
theorem dX6_removeRule_38 : decode cX6_removeRule 38 = .ok (.iload_n 2, 1) := by decide +kernel
theorem dX6_removeRule_39 : decode cX6_removeRule 39 = .ok (.aload_n 0, 1) := by decide +kernel
theorem dX6_removeRule_40 : decode cX6_removeRule 40 = .ok (.getfield 188, 3) := by decide +kernel
theorem dX6_removeRule_43 : decode cX6_removeRule 43 = .ok (.if_icmp .ge 17, 3) := by decide +kernel
theorem dX6_removeRule_46 : decode cX6_removeRule 46 = .ok (.aload_n 0, 1) := by decide +kernel
theorem dX6_removeRule_47 : decode cX6_removeRule 47 = .ok (.iload_n 2, 1) := by decide +kernel
theorem dX6_removeRule_48 : decode cX6_removeRule 48 = .ok (.iload_n 2, 1) := by decide +kernel
theorem dX6_removeRule_49 : decode cX6_removeRule 49 = .ok (.iconst 1, 1) := by decide +kernel
theorem dX6_removeRule_50 : decode cX6_removeRule 50 = .ok (.iadd, 1) := by decide +kernel
theorem dX6_removeRule_51 : decode cX6_removeRule 51 = .ok (.invokevirtual 197, 3) := by decide +kernel
theorem dX6_removeRule_54 : decode cX6_removeRule 54 = .ok (.iinc 2 1, 3) := by decide +kernel
theorem dX6_removeRule_57 : decode cX6_removeRule 57 = .ok (.goto (-19), 3) := by decide +kernel
theorem dX6_removeRule_60 : decode cX6_removeRule 60 = .ok (.aload_n 0, 1) := by decide +kernel
theorem dX6_removeRule_61 : decode cX6_removeRule 61 = .ok (.aload_n 0, 1) := by decide +kernel
theorem dX6_removeRule_62 : decode cX6_removeRule 62 = .ok (.getfield 37, 3) := by decide +kernel
theorem dX6_removeRule_65 : decode cX6_removeRule 65 = .ok (.iload_n 1, 1) := by decide +kernel
theorem dX6_removeRule_66 : decode cX6_removeRule 66 = .ok (.if_icmp .lt 12, 3) := by decide +kernel
theorem dX6_removeRule_69 : decode cX6_removeRule 69 = .ok (.aload_n 0, 1) := by decide +kernel
theorem dX6_removeRule_70 : decode cX6_removeRule 70 = .ok (.getfield 37, 3) := by decide +kernel
theorem dX6_removeRule_73 : decode cX6_removeRule 73 = .ok (.iconst 1, 1) := by decide +kernel
theorem dX6_removeRule_74 : decode cX6_removeRule 74 = .ok (.isub, 1) := by decide +kernel
theorem dX6_removeRule_75 : decode cX6_removeRule 75 = .ok (.goto 7, 3) := by decide +kernel
theorem dX6_removeRule_78 : decode cX6_removeRule 78 = .ok (.aload_n 0, 1) := by decide +kernel
theorem dX6_removeRule_79 : decode cX6_removeRule 79 = .ok (.getfield 37, 3) := by decide +kernel
theorem dX6_removeRule_82 : decode cX6_removeRule 82 = .ok (.putfield 37, 3) := by decide +kernel
theorem dX6_removeRule_85 : decode cX6_removeRule 85 = .ok (.aload_n 0, 1) := by decide +kernel
theorem dX6_removeRule_86 : decode cX6_removeRule 86 = .ok (.iconst 0, 1) := by decide +kernel
theorem dX6_removeRule_87 : decode cX6_removeRule 87 = .ok (.putfield 191, 3) := by decide +kernel
theorem dX6_removeRule_90 : decode cX6_removeRule 90 = .ok (.aload_n 0, 1) := by decide +kernel
theorem dX6_removeRule_91 : decode cX6_removeRule 91 = .ok (.getfield 188, 3) := by decide +kernel
theorem dX6_removeRule_94 : decode cX6_removeRule 94 = .ok (.ireturn, 1) := by decide +kernel
theorem dX6_ruleCount_0 : decode cX6_ruleCount 0 = .ok (.aload_n 0, 1) := by decide +kernel
theorem dX6_ruleCount_1 : decode cX6_ruleCount 1 = .ok (.iconst 0, 1) := by decide +kernel
theorem dX6_ruleCount_2 : decode cX6_ruleCount 2 = .ok (.putfield 117, 3) := by decide +kernel
theorem dX6_ruleCount_5 : decode cX6_ruleCount 5 = .ok (.aload_n 0, 1) := by decide +kernel
theorem dX6_ruleCount_6 : decode cX6_ruleCount 6 = .ok (.getfield 188, 3) := by decide +kernel
theorem dX6_ruleCount_9 : decode cX6_ruleCount 9 = .ok (.ireturn, 1) := by decide +kernel
theorem dX6_patternOf_0 : decode cX6_patternOf 0 = .ok (.aload_n 0, 1) := by decide +kernel
theorem dX6_patternOf_1 : decode cX6_patternOf 1 = .ok (.aload_n 0, 1) := by decide +kernel
theorem dX6_patternOf_2 : decode cX6_patternOf 2 = .ok (.iload_n 1, 1) := by decide +kernel
theorem dX6_patternOf_3 : decode cX6_patternOf 3 = .ok (.invokevirtual 194, 3) := by decide +kernel
theorem dX6_patternOf_6 : decode cX6_patternOf 6 = .ok (.ifCond .eq 7, 3) := by decide +kernel
theorem dX6_patternOf_9 : decode cX6_patternOf 9 = .ok (.iconst 0, 1) := by decide +kernel
theorem dX6_patternOf_10 : decode cX6_patternOf 10 = .ok (.goto 4, 3) := by decide +kernel
theorem dX6_patternOf_13 : decode cX6_patternOf 13 = .ok (.iconst 1, 1) := by decide +kernel
theorem dX6_patternOf_14 : decode cX6_patternOf 14 = .ok (.putfield 117, 3) := by decide +kernel
theorem dX6_patternOf_17 : decode cX6_patternOf 17 = .ok (.aload_n 0, 1) := by decide +kernel
theorem dX6_patternOf_18 : decode cX6_patternOf 18 = .ok (.getfield 117, 3) := by decide +kernel
theorem dX6_patternOf_21 : decode cX6_patternOf 21 = .ok (.ifCond .le 7, 3) := by decide +kernel
theorem dX6_patternOf_24 : decode cX6_patternOf 24 = .ok (.iconst 0, 1) := by decide +kernel
theorem dX6_patternOf_25 : decode cX6_patternOf 25 = .ok (.goto 9, 3) := by decide +kernel
theorem dX6_patternOf_28 : decode cX6_patternOf 28 = .ok (.aload_n 0, 1) := by decide +kernel
theorem dX6_patternOf_29 : decode cX6_patternOf 29 = .ok (.getfield 13, 3) := by decide +kernel
theorem dX6_patternOf_32 : decode cX6_patternOf 32 = .ok (.iload_n 1, 1) := by decide +kernel
theorem dX6_patternOf_33 : decode cX6_patternOf 33 = .ok (.iaload, 1) := by decide +kernel
theorem dX6_patternOf_34 : decode cX6_patternOf 34 = .ok (.ireturn, 1) := by decide +kernel
theorem dX6_setPolicy_0 : decode cX6_setPolicy 0 = .ok (.aload_n 0, 1) := by decide +kernel
theorem dX6_setPolicy_1 : decode cX6_setPolicy 1 = .ok (.iload_n 1, 1) := by decide +kernel
theorem dX6_setPolicy_2 : decode cX6_setPolicy 2 = .ok (.iconst 0, 1) := by decide +kernel
theorem dX6_setPolicy_3 : decode cX6_setPolicy 3 = .ok (.iconst 2, 1) := by decide +kernel
theorem dX6_setPolicy_4 : decode cX6_setPolicy 4 = .ok (.invokestatic 120, 3) := by decide +kernel
theorem dX6_setPolicy_7 : decode cX6_setPolicy 7 = .ok (.ifCond .eq 7, 3) := by decide +kernel
theorem dX6_setPolicy_10 : decode cX6_setPolicy 10 = .ok (.iconst 0, 1) := by decide +kernel
theorem dX6_setPolicy_11 : decode cX6_setPolicy 11 = .ok (.goto 4, 3) := by decide +kernel
theorem dX6_setPolicy_14 : decode cX6_setPolicy 14 = .ok (.iconst 1, 1) := by decide +kernel
theorem dX6_setPolicy_15 : decode cX6_setPolicy 15 = .ok (.putfield 117, 3) := by decide +kernel
theorem dX6_setPolicy_18 : decode cX6_setPolicy 18 = .ok (.aload_n 0, 1) := by decide +kernel
theorem dX6_setPolicy_19 : decode cX6_setPolicy 19 = .ok (.getfield 117, 3) := by decide +kernel
theorem dX6_setPolicy_22 : decode cX6_setPolicy 22 = .ok (.ifCond .le 5, 3) := by decide +kernel
theorem dX6_setPolicy_25 : decode cX6_setPolicy 25 = .ok (.iconst 0, 1) := by decide +kernel
theorem dX6_setPolicy_26 : decode cX6_setPolicy 26 = .ok (.ireturn, 1) := by decide +kernel
theorem dX6_setPolicy_27 : decode cX6_setPolicy 27 = .ok (.aload_n 0, 1) := by decide +kernel
theorem dX6_setPolicy_28 : decode cX6_setPolicy 28 = .ok (.getfield 201, 3) := by decide +kernel
theorem dX6_setPolicy_31 : decode cX6_setPolicy 31 = .ok (.istore_n 2, 1) := by decide +kernel
theorem dX6_setPolicy_32 : decode cX6_setPolicy 32 = .ok (.aload_n 0, 1) := by decide +kernel
theorem dX6_setPolicy_33 : decode cX6_setPolicy 33 = .ok (.iload_n 1, 1) := by decide +kernel
theorem dX6_setPolicy_34 : decode cX6_setPolicy 34 = .ok (.putfield 201, 3) := by decide +kernel
theorem dX6_setPolicy_37 : decode cX6_setPolicy 37 = .ok (.iload_n 2, 1) := by decide +kernel
theorem dX6_setPolicy_38 : decode cX6_setPolicy 38 = .ok (.ireturn, 1) := by decide +kernel
theorem dX6_isChannel_0 : decode cX6_isChannel 0 = .ok (.iload_n 0, 1) := by decide +kernel
theorem dX6_isChannel_1 : decode cX6_isChannel 1 = .ok (.iconst 0, 1) := by decide +kernel
theorem dX6_isChannel_2 : decode cX6_isChannel 2 = .ok (.bipush 7, 2) := by decide +kernel
theorem dX6_isChannel_4 : decode cX6_isChannel 4 = .ok (.invokestatic 120, 3) := by decide +kernel
theorem dX6_isChannel_7 : decode cX6_isChannel 7 = .ok (.ireturn, 1) := by decide +kernel
theorem dX6_put_0 : decode cX6_put 0 = .ok (.bipush 8, 2) := by decide +kernel
theorem dX6_put_2 : decode cX6_put 2 = .ok (.iload_n 1, 1) := by decide +kernel
theorem dX6_put_3 : decode cX6_put 3 = .ok (.imul, 1) := by decide +kernel
theorem dX6_put_4 : decode cX6_put 4 = .ok (.aload_n 0, 1) := by decide +kernel
theorem dX6_put_5 : decode cX6_put 5 = .ok (.getfield 41, 3) := by decide +kernel
theorem dX6_put_8 : decode cX6_put 8 = .ok (.iload_n 1, 1) := by decide +kernel
theorem dX6_put_9 : decode cX6_put 9 = .ok (.iaload, 1) := by decide +kernel
theorem dX6_put_10 : decode cX6_put 10 = .ok (.iadd, 1) := by decide +kernel
theorem dX6_put_11 : decode cX6_put 11 = .ok (.istore 4, 2) := by decide +kernel
theorem dX6_put_13 : decode cX6_put 13 = .ok (.aload_n 0, 1) := by decide +kernel
theorem dX6_put_14 : decode cX6_put 14 = .ok (.getfield 44, 3) := by decide +kernel
theorem dX6_put_17 : decode cX6_put 17 = .ok (.iload 4, 2) := by decide +kernel
theorem dX6_put_19 : decode cX6_put 19 = .ok (.iload_n 2, 1) := by decide +kernel
theorem dX6_put_20 : decode cX6_put 20 = .ok (.iastore, 1) := by decide +kernel
theorem dX6_put_21 : decode cX6_put 21 = .ok (.aload_n 0, 1) := by decide +kernel
theorem dX6_put_22 : decode cX6_put 22 = .ok (.getfield 47, 3) := by decide +kernel
theorem dX6_put_25 : decode cX6_put 25 = .ok (.iload 4, 2) := by decide +kernel
theorem dX6_put_27 : decode cX6_put 27 = .ok (.aload_n 0, 1) := by decide +kernel
theorem dX6_put_28 : decode cX6_put 28 = .ok (.getfield 204, 3) := by decide +kernel
theorem dX6_put_31 : decode cX6_put 31 = .ok (.iastore, 1) := by decide +kernel
theorem dX6_put_32 : decode cX6_put 32 = .ok (.aload_n 0, 1) := by decide +kernel
theorem dX6_put_33 : decode cX6_put 33 = .ok (.getfield 50, 3) := by decide +kernel
theorem dX6_put_36 : decode cX6_put 36 = .ok (.iload 4, 2) := by decide +kernel
theorem dX6_put_38 : decode cX6_put 38 = .ok (.iload_n 3, 1) := by decide +kernel
theorem dX6_put_39 : decode cX6_put 39 = .ok (.iastore, 1) := by decide +kernel
theorem dX6_put_40 : decode cX6_put 40 = .ok (.aload_n 0, 1) := by decide +kernel
theorem dX6_put_41 : decode cX6_put 41 = .ok (.getfield 41, 3) := by decide +kernel
theorem dX6_put_44 : decode cX6_put 44 = .ok (.iload_n 1, 1) := by decide +kernel
theorem dX6_put_45 : decode cX6_put 45 = .ok (.dup2, 1) := by decide +kernel
theorem dX6_put_46 : decode cX6_put 46 = .ok (.iaload, 1) := by decide +kernel
theorem dX6_put_47 : decode cX6_put 47 = .ok (.iconst 1, 1) := by decide +kernel
theorem dX6_put_48 : decode cX6_put 48 = .ok (.iadd, 1) := by decide +kernel
theorem dX6_put_49 : decode cX6_put 49 = .ok (.iastore, 1) := by decide +kernel
theorem dX6_put_50 : decode cX6_put 50 = .ok (.return_, 1) := by decide +kernel
theorem dX6_send_0 : decode cX6_send 0 = .ok (.aload_n 0, 1) := by decide +kernel
theorem dX6_send_1 : decode cX6_send 1 = .ok (.iload_n 1, 1) := by decide +kernel
theorem dX6_send_2 : decode cX6_send 2 = .ok (.invokestatic 207, 3) := by decide +kernel
theorem dX6_send_5 : decode cX6_send 5 = .ok (.ifCond .ne 7, 3) := by decide +kernel
theorem dX6_send_8 : decode cX6_send 8 = .ok (.iconst 1, 1) := by decide +kernel
theorem dX6_send_9 : decode cX6_send 9 = .ok (.goto 36, 3) := by decide +kernel
theorem dX6_send_12 : decode cX6_send 12 = .ok (.iload_n 2, 1) := by decide +kernel
theorem dX6_send_13 : decode cX6_send 13 = .ok (.sipush (-9999), 3) := by decide +kernel
theorem dX6_send_16 : decode cX6_send 16 = .ok (.sipush 9999, 3) := by decide +kernel
theorem dX6_send_19 : decode cX6_send 19 = .ok (.invokestatic 120, 3) := by decide +kernel
theorem dX6_send_22 : decode cX6_send 22 = .ok (.ifCond .ne 7, 3) := by decide +kernel
theorem dX6_send_25 : decode cX6_send 25 = .ok (.iconst 2, 1) := by decide +kernel
theorem dX6_send_26 : decode cX6_send 26 = .ok (.goto 19, 3) := by decide +kernel
theorem dX6_send_29 : decode cX6_send 29 = .ok (.aload_n 0, 1) := by decide +kernel
theorem dX6_send_30 : decode cX6_send 30 = .ok (.getfield 41, 3) := by decide +kernel
theorem dX6_send_33 : decode cX6_send 33 = .ok (.iload_n 1, 1) := by decide +kernel
theorem dX6_send_34 : decode cX6_send 34 = .ok (.iaload, 1) := by decide +kernel
theorem dX6_send_35 : decode cX6_send 35 = .ok (.bipush 8, 2) := by decide +kernel
theorem dX6_send_37 : decode cX6_send 37 = .ok (.if_icmp .ne 7, 3) := by decide +kernel
theorem dX6_send_40 : decode cX6_send 40 = .ok (.iconst 3, 1) := by decide +kernel
theorem dX6_send_41 : decode cX6_send 41 = .ok (.goto 4, 3) := by decide +kernel
theorem dX6_send_44 : decode cX6_send 44 = .ok (.iconst 0, 1) := by decide +kernel
theorem dX6_send_45 : decode cX6_send 45 = .ok (.putfield 117, 3) := by decide +kernel
theorem dX6_send_48 : decode cX6_send 48 = .ok (.aload_n 0, 1) := by decide +kernel
theorem dX6_send_49 : decode cX6_send 49 = .ok (.getfield 117, 3) := by decide +kernel
theorem dX6_send_52 : decode cX6_send 52 = .ok (.ifCond .le 5, 3) := by decide +kernel
theorem dX6_send_55 : decode cX6_send 55 = .ok (.iconst 0, 1) := by decide +kernel
theorem dX6_send_56 : decode cX6_send 56 = .ok (.ireturn, 1) := by decide +kernel
theorem dX6_send_57 : decode cX6_send 57 = .ok (.aload_n 0, 1) := by decide +kernel
theorem dX6_send_58 : decode cX6_send 58 = .ok (.dup, 1) := by decide +kernel
theorem dX6_send_59 : decode cX6_send 59 = .ok (.getfield 204, 3) := by decide +kernel
theorem dX6_send_62 : decode cX6_send 62 = .ok (.iconst 1, 1) := by decide +kernel
theorem dX6_send_63 : decode cX6_send 63 = .ok (.iadd, 1) := by decide +kernel
theorem dX6_send_64 : decode cX6_send 64 = .ok (.putfield 204, 3) := by decide +kernel
theorem dX6_send_67 : decode cX6_send 67 = .ok (.iload_n 1, 1) := by decide +kernel
theorem dX6_send_68 : decode cX6_send 68 = .ok (.iconst 4, 1) := by decide +kernel
theorem dX6_send_69 : decode cX6_send 69 = .ok (.if_icmp .ge 10, 3) := by decide +kernel
theorem dX6_send_72 : decode cX6_send 72 = .ok (.aload_n 0, 1) := by decide +kernel
theorem dX6_send_73 : decode cX6_send 73 = .ok (.getfield 210, 3) := by decide +kernel
theorem dX6_send_76 : decode cX6_send 76 = .ok (.goto 4, 3) := by decide +kernel
theorem dX6_send_79 : decode cX6_send 79 = .ok (.iconst (-1), 1) := by decide +kernel
theorem dX6_send_80 : decode cX6_send 80 = .ok (.istore_n 3, 1) := by decide +kernel
theorem dX6_send_81 : decode cX6_send 81 = .ok (.iload_n 3, 1) := by decide +kernel
theorem dX6_send_82 : decode cX6_send 82 = .ok (.iconst (-1), 1) := by decide +kernel
theorem dX6_send_83 : decode cX6_send 83 = .ok (.if_icmp .eq 23, 3) := by decide +kernel
theorem dX6_send_86 : decode cX6_send 86 = .ok (.aload_n 0, 1) := by decide +kernel
theorem dX6_send_87 : decode cX6_send 87 = .ok (.getfield 53, 3) := by decide +kernel
theorem dX6_send_90 : decode cX6_send 90 = .ok (.iload_n 3, 1) := by decide +kernel
theorem dX6_send_91 : decode cX6_send 91 = .ok (.bipush 24, 2) := by decide +kernel
theorem dX6_send_93 : decode cX6_send 93 = .ok (.irem, 1) := by decide +kernel
theorem dX6_send_94 : decode cX6_send 94 = .ok (.iconst 0, 1) := by decide +kernel
theorem dX6_send_95 : decode cX6_send 95 = .ok (.iastore, 1) := by decide +kernel
theorem dX6_send_96 : decode cX6_send 96 = .ok (.aload_n 0, 1) := by decide +kernel
theorem dX6_send_97 : decode cX6_send 97 = .ok (.dup, 1) := by decide +kernel
theorem dX6_send_98 : decode cX6_send 98 = .ok (.getfield 210, 3) := by decide +kernel
theorem dX6_send_101 : decode cX6_send 101 = .ok (.iconst 1, 1) := by decide +kernel
theorem dX6_send_102 : decode cX6_send 102 = .ok (.iadd, 1) := by decide +kernel
theorem dX6_send_103 : decode cX6_send 103 = .ok (.putfield 210, 3) := by decide +kernel
theorem dX6_send_106 : decode cX6_send 106 = .ok (.aload_n 0, 1) := by decide +kernel
theorem dX6_send_107 : decode cX6_send 107 = .ok (.iload_n 1, 1) := by decide +kernel
theorem dX6_send_108 : decode cX6_send 108 = .ok (.iload_n 2, 1) := by decide +kernel
theorem dX6_send_109 : decode cX6_send 109 = .ok (.iload_n 3, 1) := by decide +kernel
theorem dX6_send_110 : decode cX6_send 110 = .ok (.invokevirtual 213, 3) := by decide +kernel
theorem dX6_send_113 : decode cX6_send 113 = .ok (.iload_n 3, 1) := by decide +kernel
theorem dX6_send_114 : decode cX6_send 114 = .ok (.ireturn, 1) := by decide +kernel
theorem dX6_queueLength_0 : decode cX6_queueLength 0 = .ok (.aload_n 0, 1) := by decide +kernel
theorem dX6_queueLength_1 : decode cX6_queueLength 1 = .ok (.iload_n 1, 1) := by decide +kernel
theorem dX6_queueLength_2 : decode cX6_queueLength 2 = .ok (.invokestatic 207, 3) := by decide +kernel
theorem dX6_queueLength_5 : decode cX6_queueLength 5 = .ok (.ifCond .eq 7, 3) := by decide +kernel
theorem dX6_queueLength_8 : decode cX6_queueLength 8 = .ok (.iconst 0, 1) := by decide +kernel
theorem dX6_queueLength_9 : decode cX6_queueLength 9 = .ok (.goto 4, 3) := by decide +kernel
theorem dX6_queueLength_12 : decode cX6_queueLength 12 = .ok (.iconst 1, 1) := by decide +kernel
theorem dX6_queueLength_13 : decode cX6_queueLength 13 = .ok (.putfield 117, 3) := by decide +kernel
theorem dX6_queueLength_16 : decode cX6_queueLength 16 = .ok (.aload_n 0, 1) := by decide +kernel
theorem dX6_queueLength_17 : decode cX6_queueLength 17 = .ok (.getfield 117, 3) := by decide +kernel
theorem dX6_queueLength_20 : decode cX6_queueLength 20 = .ok (.ifCond .le 7, 3) := by decide +kernel
theorem dX6_queueLength_23 : decode cX6_queueLength 23 = .ok (.iconst 0, 1) := by decide +kernel
theorem dX6_queueLength_24 : decode cX6_queueLength 24 = .ok (.goto 9, 3) := by decide +kernel
theorem dX6_queueLength_27 : decode cX6_queueLength 27 = .ok (.aload_n 0, 1) := by decide +kernel
theorem dX6_queueLength_28 : decode cX6_queueLength 28 = .ok (.getfield 41, 3) := by decide +kernel
theorem dX6_queueLength_31 : decode cX6_queueLength 31 = .ok (.iload_n 1, 1) := by decide +kernel
theorem dX6_queueLength_32 : decode cX6_queueLength 32 = .ok (.iaload, 1) := by decide +kernel
theorem dX6_queueLength_33 : decode cX6_queueLength 33 = .ok (.ireturn, 1) := by decide +kernel
theorem dX6_messageAt_0 : decode cX6_messageAt 0 = .ok (.aload_n 0, 1) := by decide +kernel
theorem dX6_messageAt_1 : decode cX6_messageAt 1 = .ok (.iload_n 1, 1) := by decide +kernel
theorem dX6_messageAt_2 : decode cX6_messageAt 2 = .ok (.invokestatic 207, 3) := by decide +kernel
theorem dX6_messageAt_5 : decode cX6_messageAt 5 = .ok (.ifCond .eq 23, 3) := by decide +kernel
theorem dX6_messageAt_8 : decode cX6_messageAt 8 = .ok (.iload_n 2, 1) := by decide +kernel
theorem dX6_messageAt_9 : decode cX6_messageAt 9 = .ok (.iconst 0, 1) := by decide +kernel
theorem dX6_messageAt_10 : decode cX6_messageAt 10 = .ok (.aload_n 0, 1) := by decide +kernel
theorem dX6_messageAt_11 : decode cX6_messageAt 11 = .ok (.getfield 41, 3) := by decide +kernel
theorem dX6_messageAt_14 : decode cX6_messageAt 14 = .ok (.iload_n 1, 1) := by decide +kernel
theorem dX6_messageAt_15 : decode cX6_messageAt 15 = .ok (.iaload, 1) := by decide +kernel
theorem dX6_messageAt_16 : decode cX6_messageAt 16 = .ok (.iconst 1, 1) := by decide +kernel
theorem dX6_messageAt_17 : decode cX6_messageAt 17 = .ok (.isub, 1) := by decide +kernel
theorem dX6_messageAt_18 : decode cX6_messageAt 18 = .ok (.invokestatic 120, 3) := by decide +kernel
theorem dX6_messageAt_21 : decode cX6_messageAt 21 = .ok (.ifCond .eq 7, 3) := by decide +kernel
theorem dX6_messageAt_24 : decode cX6_messageAt 24 = .ok (.iconst 0, 1) := by decide +kernel
theorem dX6_messageAt_25 : decode cX6_messageAt 25 = .ok (.goto 4, 3) := by decide +kernel
theorem dX6_messageAt_28 : decode cX6_messageAt 28 = .ok (.iconst 1, 1) := by decide +kernel
theorem dX6_messageAt_29 : decode cX6_messageAt 29 = .ok (.putfield 117, 3) := by decide +kernel
theorem dX6_messageAt_32 : decode cX6_messageAt 32 = .ok (.aload_n 0, 1) := by decide +kernel
theorem dX6_messageAt_33 : decode cX6_messageAt 33 = .ok (.getfield 117, 3) := by decide +kernel
theorem dX6_messageAt_36 : decode cX6_messageAt 36 = .ok (.ifCond .le 7, 3) := by decide +kernel
theorem dX6_messageAt_39 : decode cX6_messageAt 39 = .ok (.iconst 0, 1) := by decide +kernel
theorem dX6_messageAt_40 : decode cX6_messageAt 40 = .ok (.goto 14, 3) := by decide +kernel
theorem dX6_messageAt_43 : decode cX6_messageAt 43 = .ok (.aload_n 0, 1) := by decide +kernel
theorem dX6_messageAt_44 : decode cX6_messageAt 44 = .ok (.getfield 44, 3) := by decide +kernel
theorem dX6_messageAt_47 : decode cX6_messageAt 47 = .ok (.bipush 8, 2) := by decide +kernel
theorem dX6_messageAt_49 : decode cX6_messageAt 49 = .ok (.iload_n 1, 1) := by decide +kernel
theorem dX6_messageAt_50 : decode cX6_messageAt 50 = .ok (.imul, 1) := by decide +kernel
theorem dX6_messageAt_51 : decode cX6_messageAt 51 = .ok (.iload_n 2, 1) := by decide +kernel
theorem dX6_messageAt_52 : decode cX6_messageAt 52 = .ok (.iadd, 1) := by decide +kernel
theorem dX6_messageAt_53 : decode cX6_messageAt 53 = .ok (.iaload, 1) := by decide +kernel
theorem dX6_messageAt_54 : decode cX6_messageAt 54 = .ok (.ireturn, 1) := by decide +kernel
theorem dX6_waitingNow_0 : decode cX6_waitingNow 0 = .ok (.iconst 0, 1) := by decide +kernel
theorem dX6_waitingNow_1 : decode cX6_waitingNow 1 = .ok (.istore_n 1, 1) := by decide +kernel
theorem dX6_waitingNow_2 : decode cX6_waitingNow 2 = .ok (.iconst 0, 1) := by decide +kernel
theorem dX6_waitingNow_3 : decode cX6_waitingNow 3 = .ok (.istore_n 2, 1) := by decide +kernel
theorem dX6_waitingNow_4 : decode cX6_waitingNow 4 = .ok (.iload_n 2, 1) := by decide +kernel
theorem dX6_waitingNow_5 : decode cX6_waitingNow 5 = .ok (.bipush 8, 2) := by decide +kernel
theorem dX6_waitingNow_7 : decode cX6_waitingNow 7 = .ok (.if_icmp .ge 28, 3) := by decide +kernel
theorem dX6_waitingNow_10 : decode cX6_waitingNow 10 = .ok (.iload_n 1, 1) := by decide +kernel
theorem dX6_waitingNow_11 : decode cX6_waitingNow 11 = .ok (.aload_n 0, 1) := by decide +kernel
theorem dX6_waitingNow_12 : decode cX6_waitingNow 12 = .ok (.getfield 41, 3) := by decide +kernel
theorem dX6_waitingNow_15 : decode cX6_waitingNow 15 = .ok (.iload_n 2, 1) := by decide +kernel
theorem dX6_waitingNow_16 : decode cX6_waitingNow 16 = .ok (.iaload, 1) := by decide +kernel
theorem dX6_waitingNow_17 : decode cX6_waitingNow 17 = .ok (.ifCond .le 9, 3) := by decide +kernel
theorem dX6_waitingNow_20 : decode cX6_waitingNow 20 = .ok (.iconst 1, 1) := by decide +kernel
theorem dX6_waitingNow_21 : decode cX6_waitingNow 21 = .ok (.iload_n 2, 1) := by decide +kernel
theorem dX6_waitingNow_22 : decode cX6_waitingNow 22 = .ok (.ishl, 1) := by decide +kernel
theorem dX6_waitingNow_23 : decode cX6_waitingNow 23 = .ok (.goto 4, 3) := by decide +kernel
theorem dX6_waitingNow_26 : decode cX6_waitingNow 26 = .ok (.iconst 0, 1) := by decide +kernel
theorem dX6_waitingNow_27 : decode cX6_waitingNow 27 = .ok (.ior, 1) := by decide +kernel
theorem dX6_waitingNow_28 : decode cX6_waitingNow 28 = .ok (.istore_n 1, 1) := by decide +kernel
theorem dX6_waitingNow_29 : decode cX6_waitingNow 29 = .ok (.iinc 2 1, 3) := by decide +kernel
theorem dX6_waitingNow_32 : decode cX6_waitingNow 32 = .ok (.goto (-28), 3) := by decide +kernel
theorem dX6_waitingNow_35 : decode cX6_waitingNow 35 = .ok (.iload_n 1, 1) := by decide +kernel
theorem dX6_waitingNow_36 : decode cX6_waitingNow 36 = .ok (.ireturn, 1) := by decide +kernel
theorem dX6_waitingChannels_0 : decode cX6_waitingChannels 0 = .ok (.aload_n 0, 1) := by decide +kernel
theorem dX6_waitingChannels_1 : decode cX6_waitingChannels 1 = .ok (.iconst 0, 1) := by decide +kernel
theorem dX6_waitingChannels_2 : decode cX6_waitingChannels 2 = .ok (.putfield 117, 3) := by decide +kernel
theorem dX6_waitingChannels_5 : decode cX6_waitingChannels 5 = .ok (.aload_n 0, 1) := by decide +kernel
theorem dX6_waitingChannels_6 : decode cX6_waitingChannels 6 = .ok (.invokevirtual 217, 3) := by decide +kernel
theorem dX6_waitingChannels_9 : decode cX6_waitingChannels 9 = .ok (.ireturn, 1) := by decide +kernel
theorem dX6_readyNow_0 : decode cX6_readyNow 0 = .ok (.aload_n 0, 1) := by decide +kernel
theorem dX6_readyNow_1 : decode cX6_readyNow 1 = .ok (.invokevirtual 217, 3) := by decide +kernel
theorem dX6_readyNow_4 : decode cX6_readyNow 4 = .ok (.istore_n 1, 1) := by decide +kernel
theorem dX6_readyNow_5 : decode cX6_readyNow 5 = .ok (.iconst 0, 1) := by decide +kernel
theorem dX6_readyNow_6 : decode cX6_readyNow 6 = .ok (.istore_n 2, 1) := by decide +kernel
theorem dX6_readyNow_7 : decode cX6_readyNow 7 = .ok (.iconst 0, 1) := by decide +kernel
theorem dX6_readyNow_8 : decode cX6_readyNow 8 = .ok (.istore_n 3, 1) := by decide +kernel
theorem dX6_readyNow_9 : decode cX6_readyNow 9 = .ok (.iload_n 3, 1) := by decide +kernel
theorem dX6_readyNow_10 : decode cX6_readyNow 10 = .ok (.aload_n 0, 1) := by decide +kernel
theorem dX6_readyNow_11 : decode cX6_readyNow 11 = .ok (.getfield 188, 3) := by decide +kernel
theorem dX6_readyNow_14 : decode cX6_readyNow 14 = .ok (.if_icmp .ge 32, 3) := by decide +kernel
theorem dX6_readyNow_17 : decode cX6_readyNow 17 = .ok (.iload_n 2, 1) := by decide +kernel
theorem dX6_readyNow_18 : decode cX6_readyNow 18 = .ok (.aload_n 0, 1) := by decide +kernel
theorem dX6_readyNow_19 : decode cX6_readyNow 19 = .ok (.getfield 13, 3) := by decide +kernel
theorem dX6_readyNow_22 : decode cX6_readyNow 22 = .ok (.iload_n 3, 1) := by decide +kernel
theorem dX6_readyNow_23 : decode cX6_readyNow 23 = .ok (.iaload, 1) := by decide +kernel
theorem dX6_readyNow_24 : decode cX6_readyNow 24 = .ok (.iload_n 1, 1) := by decide +kernel
theorem dX6_readyNow_25 : decode cX6_readyNow 25 = .ok (.iconst (-1), 1) := by decide +kernel
theorem dX6_readyNow_26 : decode cX6_readyNow 26 = .ok (.ixor, 1) := by decide +kernel
theorem dX6_readyNow_27 : decode cX6_readyNow 27 = .ok (.iand, 1) := by decide +kernel
theorem dX6_readyNow_28 : decode cX6_readyNow 28 = .ok (.ifCond .ne 9, 3) := by decide +kernel
theorem dX6_readyNow_31 : decode cX6_readyNow 31 = .ok (.iconst 1, 1) := by decide +kernel
theorem dX6_readyNow_32 : decode cX6_readyNow 32 = .ok (.iload_n 3, 1) := by decide +kernel
theorem dX6_readyNow_33 : decode cX6_readyNow 33 = .ok (.ishl, 1) := by decide +kernel
theorem dX6_readyNow_34 : decode cX6_readyNow 34 = .ok (.goto 4, 3) := by decide +kernel
theorem dX6_readyNow_37 : decode cX6_readyNow 37 = .ok (.iconst 0, 1) := by decide +kernel
theorem dX6_readyNow_38 : decode cX6_readyNow 38 = .ok (.ior, 1) := by decide +kernel
theorem dX6_readyNow_39 : decode cX6_readyNow 39 = .ok (.istore_n 2, 1) := by decide +kernel
theorem dX6_readyNow_40 : decode cX6_readyNow 40 = .ok (.iinc 3 1, 3) := by decide +kernel
theorem dX6_readyNow_43 : decode cX6_readyNow 43 = .ok (.goto (-34), 3) := by decide +kernel
theorem dX6_readyNow_46 : decode cX6_readyNow 46 = .ok (.iload_n 2, 1) := by decide +kernel
theorem dX6_readyNow_47 : decode cX6_readyNow 47 = .ok (.ireturn, 1) := by decide +kernel
theorem dX6_readyRules_0 : decode cX6_readyRules 0 = .ok (.aload_n 0, 1) := by decide +kernel
theorem dX6_readyRules_1 : decode cX6_readyRules 1 = .ok (.iconst 0, 1) := by decide +kernel
theorem dX6_readyRules_2 : decode cX6_readyRules 2 = .ok (.putfield 117, 3) := by decide +kernel
theorem dX6_readyRules_5 : decode cX6_readyRules 5 = .ok (.aload_n 0, 1) := by decide +kernel
theorem dX6_readyRules_6 : decode cX6_readyRules 6 = .ok (.invokevirtual 220, 3) := by decide +kernel
theorem dX6_readyRules_9 : decode cX6_readyRules 9 = .ok (.ireturn, 1) := by decide +kernel
theorem dX6_operand_0 : decode cX6_operand 0 = .ok (.iload_n 1, 1) := by decide +kernel
theorem dX6_operand_1 : decode cX6_operand 1 = .ok (.bipush 8, 2) := by decide +kernel
theorem dX6_operand_3 : decode cX6_operand 3 = .ok (.if_icmp .ge 23, 3) := by decide +kernel
theorem dX6_operand_6 : decode cX6_operand 6 = .ok (.aload_n 0, 1) := by decide +kernel
theorem dX6_operand_7 : decode cX6_operand 7 = .ok (.getfield 44, 3) := by decide +kernel
theorem dX6_operand_10 : decode cX6_operand 10 = .ok (.bipush 8, 2) := by decide +kernel
theorem dX6_operand_12 : decode cX6_operand 12 = .ok (.iload_n 1, 1) := by decide +kernel
theorem dX6_operand_13 : decode cX6_operand 13 = .ok (.imul, 1) := by decide +kernel
theorem dX6_operand_14 : decode cX6_operand 14 = .ok (.aload_n 0, 1) := by decide +kernel
theorem dX6_operand_15 : decode cX6_operand 15 = .ok (.getfield 81, 3) := by decide +kernel
theorem dX6_operand_18 : decode cX6_operand 18 = .ok (.iload_n 1, 1) := by decide +kernel
theorem dX6_operand_19 : decode cX6_operand 19 = .ok (.iaload, 1) := by decide +kernel
theorem dX6_operand_20 : decode cX6_operand 20 = .ok (.iadd, 1) := by decide +kernel
theorem dX6_operand_21 : decode cX6_operand 21 = .ok (.iaload, 1) := by decide +kernel
theorem dX6_operand_22 : decode cX6_operand 22 = .ok (.i2l, 1) := by decide +kernel
theorem dX6_operand_23 : decode cX6_operand 23 = .ok (.goto 8, 3) := by decide +kernel
theorem dX6_operand_26 : decode cX6_operand 26 = .ok (.iload_n 1, 1) := by decide +kernel
theorem dX6_operand_27 : decode cX6_operand 27 = .ok (.bipush 8, 2) := by decide +kernel
theorem dX6_operand_29 : decode cX6_operand 29 = .ok (.isub, 1) := by decide +kernel
theorem dX6_operand_30 : decode cX6_operand 30 = .ok (.i2l, 1) := by decide +kernel
theorem dX6_operand_31 : decode cX6_operand 31 = .ok (.lreturn, 1) := by decide +kernel
theorem dX6_isGuarded_0 : decode cX6_isGuarded 0 = .ok (.aload_n 0, 1) := by decide +kernel
theorem dX6_isGuarded_1 : decode cX6_isGuarded 1 = .ok (.getfield 16, 3) := by decide +kernel
theorem dX6_isGuarded_4 : decode cX6_isGuarded 4 = .ok (.iconst 3, 1) := by decide +kernel
theorem dX6_isGuarded_5 : decode cX6_isGuarded 5 = .ok (.iload_n 1, 1) := by decide +kernel
theorem dX6_isGuarded_6 : decode cX6_isGuarded 6 = .ok (.imul, 1) := by decide +kernel
theorem dX6_isGuarded_7 : decode cX6_isGuarded 7 = .ok (.iconst 1, 1) := by decide +kernel
theorem dX6_isGuarded_8 : decode cX6_isGuarded 8 = .ok (.iadd, 1) := by decide +kernel
theorem dX6_isGuarded_9 : decode cX6_isGuarded 9 = .ok (.iaload, 1) := by decide +kernel
theorem dX6_isGuarded_10 : decode cX6_isGuarded 10 = .ok (.istore_n 2, 1) := by decide +kernel
theorem dX6_isGuarded_11 : decode cX6_isGuarded 11 = .ok (.iload_n 2, 1) := by decide +kernel
theorem dX6_isGuarded_12 : decode cX6_isGuarded 12 = .ok (.ifCond .ne 5, 3) := by decide +kernel
theorem dX6_isGuarded_15 : decode cX6_isGuarded 15 = .ok (.iconst 1, 1) := by decide +kernel
theorem dX6_isGuarded_16 : decode cX6_isGuarded 16 = .ok (.ireturn, 1) := by decide +kernel
theorem dX6_isGuarded_17 : decode cX6_isGuarded 17 = .ok (.aload_n 0, 1) := by decide +kernel
theorem dX6_isGuarded_18 : decode cX6_isGuarded 18 = .ok (.aload_n 0, 1) := by decide +kernel
theorem dX6_isGuarded_19 : decode cX6_isGuarded 19 = .ok (.getfield 16, 3) := by decide +kernel
theorem dX6_isGuarded_22 : decode cX6_isGuarded 22 = .ok (.iconst 3, 1) := by decide +kernel
theorem dX6_isGuarded_23 : decode cX6_isGuarded 23 = .ok (.iload_n 1, 1) := by decide +kernel
theorem dX6_isGuarded_24 : decode cX6_isGuarded 24 = .ok (.imul, 1) := by decide +kernel
theorem dX6_isGuarded_25 : decode cX6_isGuarded 25 = .ok (.iaload, 1) := by decide +kernel
theorem dX6_isGuarded_26 : decode cX6_isGuarded 26 = .ok (.invokevirtual 223, 3) := by decide +kernel
theorem dX6_isGuarded_29 : decode cX6_isGuarded 29 = .ok (.lstore_n 3, 1) := by decide +kernel
theorem dX6_isGuarded_30 : decode cX6_isGuarded 30 = .ok (.aload_n 0, 1) := by decide +kernel
theorem dX6_isGuarded_31 : decode cX6_isGuarded 31 = .ok (.aload_n 0, 1) := by decide +kernel
theorem dX6_isGuarded_32 : decode cX6_isGuarded 32 = .ok (.getfield 16, 3) := by decide +kernel
theorem dX6_isGuarded_35 : decode cX6_isGuarded 35 = .ok (.iconst 3, 1) := by decide +kernel
theorem dX6_isGuarded_36 : decode cX6_isGuarded 36 = .ok (.iload_n 1, 1) := by decide +kernel
theorem dX6_isGuarded_37 : decode cX6_isGuarded 37 = .ok (.imul, 1) := by decide +kernel
theorem dX6_isGuarded_38 : decode cX6_isGuarded 38 = .ok (.iconst 2, 1) := by decide +kernel
theorem dX6_isGuarded_39 : decode cX6_isGuarded 39 = .ok (.iadd, 1) := by decide +kernel
theorem dX6_isGuarded_40 : decode cX6_isGuarded 40 = .ok (.iaload, 1) := by decide +kernel
theorem dX6_isGuarded_41 : decode cX6_isGuarded 41 = .ok (.invokevirtual 223, 3) := by decide +kernel
theorem dX6_isGuarded_44 : decode cX6_isGuarded 44 = .ok (.lstore 5, 2) := by decide +kernel
theorem dX6_isGuarded_46 : decode cX6_isGuarded 46 = .ok (.iload_n 2, 1) := by decide +kernel
theorem dX6_isGuarded_47 : decode cX6_isGuarded 47 = .ok (.bipush 60, 2) := by decide +kernel
theorem dX6_isGuarded_49 : decode cX6_isGuarded 49 = .ok (.if_icmp .ne 18, 3) := by decide +kernel
theorem dX6_isGuarded_52 : decode cX6_isGuarded 52 = .ok (.lload_n 3, 1) := by decide +kernel
theorem dX6_isGuarded_53 : decode cX6_isGuarded 53 = .ok (.lload 5, 2) := by decide +kernel
theorem dX6_isGuarded_55 : decode cX6_isGuarded 55 = .ok (.lcmp, 1) := by decide +kernel
theorem dX6_isGuarded_56 : decode cX6_isGuarded 56 = .ok (.ifCond .ge 7, 3) := by decide +kernel
theorem dX6_isGuarded_59 : decode cX6_isGuarded 59 = .ok (.iconst 1, 1) := by decide +kernel
theorem dX6_isGuarded_60 : decode cX6_isGuarded 60 = .ok (.goto 40, 3) := by decide +kernel
theorem dX6_isGuarded_63 : decode cX6_isGuarded 63 = .ok (.iconst 0, 1) := by decide +kernel
theorem dX6_isGuarded_64 : decode cX6_isGuarded 64 = .ok (.goto 36, 3) := by decide +kernel
theorem dX6_isGuarded_67 : decode cX6_isGuarded 67 = .ok (.iload_n 2, 1) := by decide +kernel
theorem dX6_isGuarded_68 : decode cX6_isGuarded 68 = .ok (.bipush 61, 2) := by decide +kernel
theorem dX6_isGuarded_70 : decode cX6_isGuarded 70 = .ok (.if_icmp .ne 18, 3) := by decide +kernel
theorem dX6_isGuarded_73 : decode cX6_isGuarded 73 = .ok (.lload_n 3, 1) := by decide +kernel
theorem dX6_isGuarded_74 : decode cX6_isGuarded 74 = .ok (.lload 5, 2) := by decide +kernel
theorem dX6_isGuarded_76 : decode cX6_isGuarded 76 = .ok (.lcmp, 1) := by decide +kernel
theorem dX6_isGuarded_77 : decode cX6_isGuarded 77 = .ok (.ifCond .ne 7, 3) := by decide +kernel
theorem dX6_isGuarded_80 : decode cX6_isGuarded 80 = .ok (.iconst 1, 1) := by decide +kernel
theorem dX6_isGuarded_81 : decode cX6_isGuarded 81 = .ok (.goto 19, 3) := by decide +kernel
theorem dX6_isGuarded_84 : decode cX6_isGuarded 84 = .ok (.iconst 0, 1) := by decide +kernel
theorem dX6_isGuarded_85 : decode cX6_isGuarded 85 = .ok (.goto 15, 3) := by decide +kernel
theorem dX6_isGuarded_88 : decode cX6_isGuarded 88 = .ok (.lload_n 3, 1) := by decide +kernel
theorem dX6_isGuarded_89 : decode cX6_isGuarded 89 = .ok (.lload 5, 2) := by decide +kernel
theorem dX6_isGuarded_91 : decode cX6_isGuarded 91 = .ok (.lcmp, 1) := by decide +kernel
theorem dX6_isGuarded_92 : decode cX6_isGuarded 92 = .ok (.ifCond .le 7, 3) := by decide +kernel
theorem dX6_isGuarded_95 : decode cX6_isGuarded 95 = .ok (.iconst 1, 1) := by decide +kernel
theorem dX6_isGuarded_96 : decode cX6_isGuarded 96 = .ok (.goto 4, 3) := by decide +kernel
theorem dX6_isGuarded_99 : decode cX6_isGuarded 99 = .ok (.iconst 0, 1) := by decide +kernel
theorem dX6_isGuarded_100 : decode cX6_isGuarded 100 = .ok (.ireturn, 1) := by decide +kernel
theorem dX6_goOn_0 : decode cX6_goOn 0 = .ok (.bipush 7, 2) := by decide +kernel
theorem dX6_goOn_2 : decode cX6_goOn 2 = .ok (.istore_n 2, 1) := by decide +kernel
theorem dX6_goOn_3 : decode cX6_goOn 3 = .ok (.iload_n 2, 1) := by decide +kernel
theorem dX6_goOn_4 : decode cX6_goOn 4 = .ok (.ifCond .lt 57, 3) := by decide +kernel
theorem dX6_goOn_7 : decode cX6_goOn 7 = .ok (.aload_n 0, 1) := by decide +kernel
theorem dX6_goOn_8 : decode cX6_goOn 8 = .ok (.getfield 13, 3) := by decide +kernel
theorem dX6_goOn_11 : decode cX6_goOn 11 = .ok (.iload_n 1, 1) := by decide +kernel
theorem dX6_goOn_12 : decode cX6_goOn 12 = .ok (.iaload, 1) := by decide +kernel
theorem dX6_goOn_13 : decode cX6_goOn 13 = .ok (.iload_n 2, 1) := by decide +kernel
theorem dX6_goOn_14 : decode cX6_goOn 14 = .ok (.ishr, 1) := by decide +kernel
theorem dX6_goOn_15 : decode cX6_goOn 15 = .ok (.iconst 1, 1) := by decide +kernel
theorem dX6_goOn_16 : decode cX6_goOn 16 = .ok (.iand, 1) := by decide +kernel
theorem dX6_goOn_17 : decode cX6_goOn 17 = .ok (.iconst 1, 1) := by decide +kernel
theorem dX6_goOn_18 : decode cX6_goOn 18 = .ok (.if_icmp .ne 37, 3) := by decide +kernel
theorem dX6_goOn_21 : decode cX6_goOn 21 = .ok (.aload_n 0, 1) := by decide +kernel
theorem dX6_goOn_22 : decode cX6_goOn 22 = .ok (.getfield 81, 3) := by decide +kernel
theorem dX6_goOn_25 : decode cX6_goOn 25 = .ok (.iload_n 2, 1) := by decide +kernel
theorem dX6_goOn_26 : decode cX6_goOn 26 = .ok (.dup2, 1) := by decide +kernel
theorem dX6_goOn_27 : decode cX6_goOn 27 = .ok (.iaload, 1) := by decide +kernel
theorem dX6_goOn_28 : decode cX6_goOn 28 = .ok (.iconst 1, 1) := by decide +kernel
theorem dX6_goOn_29 : decode cX6_goOn 29 = .ok (.iadd, 1) := by decide +kernel
theorem dX6_goOn_30 : decode cX6_goOn 30 = .ok (.iastore, 1) := by decide +kernel
theorem dX6_goOn_31 : decode cX6_goOn 31 = .ok (.aload_n 0, 1) := by decide +kernel
theorem dX6_goOn_32 : decode cX6_goOn 32 = .ok (.getfield 81, 3) := by decide +kernel
theorem dX6_goOn_35 : decode cX6_goOn 35 = .ok (.iload_n 2, 1) := by decide +kernel
theorem dX6_goOn_36 : decode cX6_goOn 36 = .ok (.iaload, 1) := by decide +kernel
theorem dX6_goOn_37 : decode cX6_goOn 37 = .ok (.aload_n 0, 1) := by decide +kernel
theorem dX6_goOn_38 : decode cX6_goOn 38 = .ok (.getfield 41, 3) := by decide +kernel
theorem dX6_goOn_41 : decode cX6_goOn 41 = .ok (.iload_n 2, 1) := by decide +kernel
theorem dX6_goOn_42 : decode cX6_goOn 42 = .ok (.iaload, 1) := by decide +kernel
theorem dX6_goOn_43 : decode cX6_goOn 43 = .ok (.if_icmp .ge 5, 3) := by decide +kernel
theorem dX6_goOn_46 : decode cX6_goOn 46 = .ok (.iconst 1, 1) := by decide +kernel
theorem dX6_goOn_47 : decode cX6_goOn 47 = .ok (.ireturn, 1) := by decide +kernel
theorem dX6_goOn_48 : decode cX6_goOn 48 = .ok (.aload_n 0, 1) := by decide +kernel
theorem dX6_goOn_49 : decode cX6_goOn 49 = .ok (.getfield 81, 3) := by decide +kernel
theorem dX6_goOn_52 : decode cX6_goOn 52 = .ok (.iload_n 2, 1) := by decide +kernel
theorem dX6_goOn_53 : decode cX6_goOn 53 = .ok (.iconst 0, 1) := by decide +kernel
theorem dX6_goOn_54 : decode cX6_goOn 54 = .ok (.iastore, 1) := by decide +kernel
theorem dX6_goOn_55 : decode cX6_goOn 55 = .ok (.iinc 2 (-1), 3) := by decide +kernel
theorem dX6_goOn_58 : decode cX6_goOn 58 = .ok (.goto (-55), 3) := by decide +kernel
theorem dX6_goOn_61 : decode cX6_goOn 61 = .ok (.iconst 0, 1) := by decide +kernel
theorem dX6_goOn_62 : decode cX6_goOn 62 = .ok (.ireturn, 1) := by decide +kernel
theorem dX6_matches_0 : decode cX6_matches 0 = .ok (.iconst 0, 1) := by decide +kernel
theorem dX6_matches_1 : decode cX6_matches 1 = .ok (.istore_n 2, 1) := by decide +kernel
theorem dX6_matches_2 : decode cX6_matches 2 = .ok (.iload_n 2, 1) := by decide +kernel
theorem dX6_matches_3 : decode cX6_matches 3 = .ok (.bipush 8, 2) := by decide +kernel
theorem dX6_matches_5 : decode cX6_matches 5 = .ok (.if_icmp .ge 16, 3) := by decide +kernel
theorem dX6_matches_8 : decode cX6_matches 8 = .ok (.aload_n 0, 1) := by decide +kernel
theorem dX6_matches_9 : decode cX6_matches 9 = .ok (.getfield 81, 3) := by decide +kernel
theorem dX6_matches_12 : decode cX6_matches 12 = .ok (.iload_n 2, 1) := by decide +kernel
theorem dX6_matches_13 : decode cX6_matches 13 = .ok (.iconst 0, 1) := by decide +kernel
theorem dX6_matches_14 : decode cX6_matches 14 = .ok (.iastore, 1) := by decide +kernel
theorem dX6_matches_15 : decode cX6_matches 15 = .ok (.iinc 2 1, 3) := by decide +kernel
theorem dX6_matches_18 : decode cX6_matches 18 = .ok (.goto (-16), 3) := by decide +kernel
theorem dX6_matches_21 : decode cX6_matches 21 = .ok (.aload_n 0, 1) := by decide +kernel
theorem dX6_matches_22 : decode cX6_matches 22 = .ok (.invokevirtual 220, 3) := by decide +kernel
theorem dX6_matches_25 : decode cX6_matches 25 = .ok (.iload_n 1, 1) := by decide +kernel
theorem dX6_matches_26 : decode cX6_matches 26 = .ok (.ishr, 1) := by decide +kernel
theorem dX6_matches_27 : decode cX6_matches 27 = .ok (.iconst 1, 1) := by decide +kernel
theorem dX6_matches_28 : decode cX6_matches 28 = .ok (.iand, 1) := by decide +kernel
theorem dX6_matches_29 : decode cX6_matches 29 = .ok (.ifCond .ne 5, 3) := by decide +kernel
theorem dX6_matches_32 : decode cX6_matches 32 = .ok (.iconst 0, 1) := by decide +kernel
theorem dX6_matches_33 : decode cX6_matches 33 = .ok (.ireturn, 1) := by decide +kernel
theorem dX6_matches_34 : decode cX6_matches 34 = .ok (.aload_n 0, 1) := by decide +kernel
theorem dX6_matches_35 : decode cX6_matches 35 = .ok (.iload_n 1, 1) := by decide +kernel
theorem dX6_matches_36 : decode cX6_matches 36 = .ok (.invokevirtual 227, 3) := by decide +kernel
theorem dX6_matches_39 : decode cX6_matches 39 = .ok (.istore_n 2, 1) := by decide +kernel
theorem dX6_matches_40 : decode cX6_matches 40 = .ok (.iconst 1, 1) := by decide +kernel
theorem dX6_matches_41 : decode cX6_matches 41 = .ok (.istore_n 3, 1) := by decide +kernel
theorem dX6_matches_42 : decode cX6_matches 42 = .ok (.iload_n 2, 1) := by decide +kernel
theorem dX6_matches_43 : decode cX6_matches 43 = .ok (.ifCond .ne 34, 3) := by decide +kernel
theorem dX6_matches_46 : decode cX6_matches 46 = .ok (.iload_n 3, 1) := by decide +kernel
theorem dX6_matches_47 : decode cX6_matches 47 = .ok (.ifCond .eq 30, 3) := by decide +kernel
theorem dX6_matches_50 : decode cX6_matches 50 = .ok (.aload_n 0, 1) := by decide +kernel
theorem dX6_matches_51 : decode cX6_matches 51 = .ok (.iload_n 1, 1) := by decide +kernel
theorem dX6_matches_52 : decode cX6_matches 52 = .ok (.invokevirtual 230, 3) := by decide +kernel
theorem dX6_matches_55 : decode cX6_matches 55 = .ok (.istore_n 3, 1) := by decide +kernel
theorem dX6_matches_56 : decode cX6_matches 56 = .ok (.iload_n 3, 1) := by decide +kernel
theorem dX6_matches_57 : decode cX6_matches 57 = .ok (.ifCond .eq 15, 3) := by decide +kernel
theorem dX6_matches_60 : decode cX6_matches 60 = .ok (.aload_n 0, 1) := by decide +kernel
theorem dX6_matches_61 : decode cX6_matches 61 = .ok (.iload_n 1, 1) := by decide +kernel
theorem dX6_matches_62 : decode cX6_matches 62 = .ok (.invokevirtual 227, 3) := by decide +kernel
theorem dX6_matches_65 : decode cX6_matches 65 = .ok (.ifCond .eq 7, 3) := by decide +kernel
theorem dX6_matches_68 : decode cX6_matches 68 = .ok (.iconst 1, 1) := by decide +kernel
theorem dX6_matches_69 : decode cX6_matches 69 = .ok (.goto 4, 3) := by decide +kernel
theorem dX6_matches_72 : decode cX6_matches 72 = .ok (.iconst 0, 1) := by decide +kernel
theorem dX6_matches_73 : decode cX6_matches 73 = .ok (.istore_n 2, 1) := by decide +kernel
theorem dX6_matches_74 : decode cX6_matches 74 = .ok (.goto (-32), 3) := by decide +kernel
theorem dX6_matches_77 : decode cX6_matches 77 = .ok (.iload_n 2, 1) := by decide +kernel
theorem dX6_matches_78 : decode cX6_matches 78 = .ok (.ireturn, 1) := by decide +kernel
theorem dX6_hasRoom_0 : decode cX6_hasRoom 0 = .ok (.iconst 1, 1) := by decide +kernel
theorem dX6_hasRoom_1 : decode cX6_hasRoom 1 = .ok (.istore_n 2, 1) := by decide +kernel
theorem dX6_hasRoom_2 : decode cX6_hasRoom 2 = .ok (.iconst 0, 1) := by decide +kernel
theorem dX6_hasRoom_3 : decode cX6_hasRoom 3 = .ok (.istore_n 3, 1) := by decide +kernel
theorem dX6_hasRoom_4 : decode cX6_hasRoom 4 = .ok (.iload_n 3, 1) := by decide +kernel
theorem dX6_hasRoom_5 : decode cX6_hasRoom 5 = .ok (.bipush 8, 2) := by decide +kernel
theorem dX6_hasRoom_7 : decode cX6_hasRoom 7 = .ok (.if_icmp .ge 90, 3) := by decide +kernel
theorem dX6_hasRoom_10 : decode cX6_hasRoom 10 = .ok (.aload_n 0, 1) := by decide +kernel
theorem dX6_hasRoom_11 : decode cX6_hasRoom 11 = .ok (.getfield 41, 3) := by decide +kernel
theorem dX6_hasRoom_14 : decode cX6_hasRoom 14 = .ok (.iload_n 3, 1) := by decide +kernel
theorem dX6_hasRoom_15 : decode cX6_hasRoom 15 = .ok (.iaload, 1) := by decide +kernel
theorem dX6_hasRoom_16 : decode cX6_hasRoom 16 = .ok (.aload_n 0, 1) := by decide +kernel
theorem dX6_hasRoom_17 : decode cX6_hasRoom 17 = .ok (.getfield 13, 3) := by decide +kernel
theorem dX6_hasRoom_20 : decode cX6_hasRoom 20 = .ok (.iload_n 1, 1) := by decide +kernel
theorem dX6_hasRoom_21 : decode cX6_hasRoom 21 = .ok (.iaload, 1) := by decide +kernel
theorem dX6_hasRoom_22 : decode cX6_hasRoom 22 = .ok (.iload_n 3, 1) := by decide +kernel
theorem dX6_hasRoom_23 : decode cX6_hasRoom 23 = .ok (.ishr, 1) := by decide +kernel
theorem dX6_hasRoom_24 : decode cX6_hasRoom 24 = .ok (.iconst 1, 1) := by decide +kernel
theorem dX6_hasRoom_25 : decode cX6_hasRoom 25 = .ok (.iand, 1) := by decide +kernel
theorem dX6_hasRoom_26 : decode cX6_hasRoom 26 = .ok (.isub, 1) := by decide +kernel
theorem dX6_hasRoom_27 : decode cX6_hasRoom 27 = .ok (.istore 4, 2) := by decide +kernel
theorem dX6_hasRoom_29 : decode cX6_hasRoom 29 = .ok (.iconst 0, 1) := by decide +kernel
theorem dX6_hasRoom_30 : decode cX6_hasRoom 30 = .ok (.istore 5, 2) := by decide +kernel
theorem dX6_hasRoom_32 : decode cX6_hasRoom 32 = .ok (.iload 5, 2) := by decide +kernel
theorem dX6_hasRoom_34 : decode cX6_hasRoom 34 = .ok (.aload_n 0, 1) := by decide +kernel
theorem dX6_hasRoom_35 : decode cX6_hasRoom 35 = .ok (.getfield 19, 3) := by decide +kernel
theorem dX6_hasRoom_38 : decode cX6_hasRoom 38 = .ok (.iload_n 1, 1) := by decide +kernel
theorem dX6_hasRoom_39 : decode cX6_hasRoom 39 = .ok (.iaload, 1) := by decide +kernel
theorem dX6_hasRoom_40 : decode cX6_hasRoom 40 = .ok (.if_icmp .ge 34, 3) := by decide +kernel
theorem dX6_hasRoom_43 : decode cX6_hasRoom 43 = .ok (.iload 4, 2) := by decide +kernel
theorem dX6_hasRoom_45 : decode cX6_hasRoom 45 = .ok (.aload_n 0, 1) := by decide +kernel
theorem dX6_hasRoom_46 : decode cX6_hasRoom 46 = .ok (.getfield 22, 3) := by decide +kernel
theorem dX6_hasRoom_49 : decode cX6_hasRoom 49 = .ok (.iconst 4, 1) := by decide +kernel
theorem dX6_hasRoom_50 : decode cX6_hasRoom 50 = .ok (.iload_n 1, 1) := by decide +kernel
theorem dX6_hasRoom_51 : decode cX6_hasRoom 51 = .ok (.imul, 1) := by decide +kernel
theorem dX6_hasRoom_52 : decode cX6_hasRoom 52 = .ok (.iload 5, 2) := by decide +kernel
theorem dX6_hasRoom_54 : decode cX6_hasRoom 54 = .ok (.iadd, 1) := by decide +kernel
theorem dX6_hasRoom_55 : decode cX6_hasRoom 55 = .ok (.iaload, 1) := by decide +kernel
theorem dX6_hasRoom_56 : decode cX6_hasRoom 56 = .ok (.iload_n 3, 1) := by decide +kernel
theorem dX6_hasRoom_57 : decode cX6_hasRoom 57 = .ok (.if_icmp .ne 7, 3) := by decide +kernel
theorem dX6_hasRoom_60 : decode cX6_hasRoom 60 = .ok (.iconst 1, 1) := by decide +kernel
theorem dX6_hasRoom_61 : decode cX6_hasRoom 61 = .ok (.goto 4, 3) := by decide +kernel
theorem dX6_hasRoom_64 : decode cX6_hasRoom 64 = .ok (.iconst 0, 1) := by decide +kernel
theorem dX6_hasRoom_65 : decode cX6_hasRoom 65 = .ok (.iadd, 1) := by decide +kernel
theorem dX6_hasRoom_66 : decode cX6_hasRoom 66 = .ok (.istore 4, 2) := by decide +kernel
theorem dX6_hasRoom_68 : decode cX6_hasRoom 68 = .ok (.iinc 5 1, 3) := by decide +kernel
theorem dX6_hasRoom_71 : decode cX6_hasRoom 71 = .ok (.goto (-39), 3) := by decide +kernel
theorem dX6_hasRoom_74 : decode cX6_hasRoom 74 = .ok (.iload_n 2, 1) := by decide +kernel
theorem dX6_hasRoom_75 : decode cX6_hasRoom 75 = .ok (.ifCond .eq 14, 3) := by decide +kernel
theorem dX6_hasRoom_78 : decode cX6_hasRoom 78 = .ok (.iload 4, 2) := by decide +kernel
theorem dX6_hasRoom_80 : decode cX6_hasRoom 80 = .ok (.bipush 8, 2) := by decide +kernel
theorem dX6_hasRoom_82 : decode cX6_hasRoom 82 = .ok (.if_icmp .gt 7, 3) := by decide +kernel
theorem dX6_hasRoom_85 : decode cX6_hasRoom 85 = .ok (.iconst 1, 1) := by decide +kernel
theorem dX6_hasRoom_86 : decode cX6_hasRoom 86 = .ok (.goto 4, 3) := by decide +kernel
theorem dX6_hasRoom_89 : decode cX6_hasRoom 89 = .ok (.iconst 0, 1) := by decide +kernel
theorem dX6_hasRoom_90 : decode cX6_hasRoom 90 = .ok (.istore_n 2, 1) := by decide +kernel
theorem dX6_hasRoom_91 : decode cX6_hasRoom 91 = .ok (.iinc 3 1, 3) := by decide +kernel
theorem dX6_hasRoom_94 : decode cX6_hasRoom 94 = .ok (.goto (-90), 3) := by decide +kernel
theorem dX6_hasRoom_97 : decode cX6_hasRoom 97 = .ok (.iload_n 2, 1) := by decide +kernel
theorem dX6_hasRoom_98 : decode cX6_hasRoom 98 = .ok (.ireturn, 1) := by decide +kernel
theorem dX6_isEnabled_0 : decode cX6_isEnabled 0 = .ok (.aload_n 0, 1) := by decide +kernel
theorem dX6_isEnabled_1 : decode cX6_isEnabled 1 = .ok (.iload_n 1, 1) := by decide +kernel
theorem dX6_isEnabled_2 : decode cX6_isEnabled 2 = .ok (.invokevirtual 233, 3) := by decide +kernel
theorem dX6_isEnabled_5 : decode cX6_isEnabled 5 = .ok (.ifCond .eq 15, 3) := by decide +kernel
theorem dX6_isEnabled_8 : decode cX6_isEnabled 8 = .ok (.aload_n 0, 1) := by decide +kernel
theorem dX6_isEnabled_9 : decode cX6_isEnabled 9 = .ok (.iload_n 1, 1) := by decide +kernel
theorem dX6_isEnabled_10 : decode cX6_isEnabled 10 = .ok (.invokevirtual 236, 3) := by decide +kernel
theorem dX6_isEnabled_13 : decode cX6_isEnabled 13 = .ok (.ifCond .eq 7, 3) := by decide +kernel
theorem dX6_isEnabled_16 : decode cX6_isEnabled 16 = .ok (.iconst 1, 1) := by decide +kernel
theorem dX6_isEnabled_17 : decode cX6_isEnabled 17 = .ok (.goto 4, 3) := by decide +kernel
theorem dX6_isEnabled_20 : decode cX6_isEnabled 20 = .ok (.iconst 0, 1) := by decide +kernel
theorem dX6_isEnabled_21 : decode cX6_isEnabled 21 = .ok (.ireturn, 1) := by decide +kernel
theorem dX6_enabledNow_0 : decode cX6_enabledNow 0 = .ok (.iconst 0, 1) := by decide +kernel
theorem dX6_enabledNow_1 : decode cX6_enabledNow 1 = .ok (.istore_n 1, 1) := by decide +kernel
theorem dX6_enabledNow_2 : decode cX6_enabledNow 2 = .ok (.iconst 0, 1) := by decide +kernel
theorem dX6_enabledNow_3 : decode cX6_enabledNow 3 = .ok (.istore_n 2, 1) := by decide +kernel
theorem dX6_enabledNow_4 : decode cX6_enabledNow 4 = .ok (.iload_n 2, 1) := by decide +kernel
theorem dX6_enabledNow_5 : decode cX6_enabledNow 5 = .ok (.aload_n 0, 1) := by decide +kernel
theorem dX6_enabledNow_6 : decode cX6_enabledNow 6 = .ok (.getfield 188, 3) := by decide +kernel
theorem dX6_enabledNow_9 : decode cX6_enabledNow 9 = .ok (.if_icmp .ge 27, 3) := by decide +kernel
theorem dX6_enabledNow_12 : decode cX6_enabledNow 12 = .ok (.iload_n 1, 1) := by decide +kernel
theorem dX6_enabledNow_13 : decode cX6_enabledNow 13 = .ok (.aload_n 0, 1) := by decide +kernel
theorem dX6_enabledNow_14 : decode cX6_enabledNow 14 = .ok (.iload_n 2, 1) := by decide +kernel
theorem dX6_enabledNow_15 : decode cX6_enabledNow 15 = .ok (.invokevirtual 239, 3) := by decide +kernel
theorem dX6_enabledNow_18 : decode cX6_enabledNow 18 = .ok (.ifCond .eq 9, 3) := by decide +kernel
theorem dX6_enabledNow_21 : decode cX6_enabledNow 21 = .ok (.iconst 1, 1) := by decide +kernel
theorem dX6_enabledNow_22 : decode cX6_enabledNow 22 = .ok (.iload_n 2, 1) := by decide +kernel
theorem dX6_enabledNow_23 : decode cX6_enabledNow 23 = .ok (.ishl, 1) := by decide +kernel
theorem dX6_enabledNow_24 : decode cX6_enabledNow 24 = .ok (.goto 4, 3) := by decide +kernel
theorem dX6_enabledNow_27 : decode cX6_enabledNow 27 = .ok (.iconst 0, 1) := by decide +kernel
theorem dX6_enabledNow_28 : decode cX6_enabledNow 28 = .ok (.ior, 1) := by decide +kernel
theorem dX6_enabledNow_29 : decode cX6_enabledNow 29 = .ok (.istore_n 1, 1) := by decide +kernel
theorem dX6_enabledNow_30 : decode cX6_enabledNow 30 = .ok (.iinc 2 1, 3) := by decide +kernel
theorem dX6_enabledNow_33 : decode cX6_enabledNow 33 = .ok (.goto (-29), 3) := by decide +kernel
theorem dX6_enabledNow_36 : decode cX6_enabledNow 36 = .ok (.iload_n 1, 1) := by decide +kernel
theorem dX6_enabledNow_37 : decode cX6_enabledNow 37 = .ok (.ireturn, 1) := by decide +kernel
theorem dX6_enabledRules_0 : decode cX6_enabledRules 0 = .ok (.aload_n 0, 1) := by decide +kernel
theorem dX6_enabledRules_1 : decode cX6_enabledRules 1 = .ok (.iconst 0, 1) := by decide +kernel
theorem dX6_enabledRules_2 : decode cX6_enabledRules 2 = .ok (.putfield 117, 3) := by decide +kernel
theorem dX6_enabledRules_5 : decode cX6_enabledRules 5 = .ok (.aload_n 0, 1) := by decide +kernel
theorem dX6_enabledRules_6 : decode cX6_enabledRules 6 = .ok (.invokevirtual 242, 3) := by decide +kernel
theorem dX6_enabledRules_9 : decode cX6_enabledRules 9 = .ok (.ireturn, 1) := by decide +kernel
theorem dX6_matchOf_0 : decode cX6_matchOf 0 = .ok (.aload_n 0, 1) := by decide +kernel
theorem dX6_matchOf_1 : decode cX6_matchOf 1 = .ok (.aload_n 0, 1) := by decide +kernel
theorem dX6_matchOf_2 : decode cX6_matchOf 2 = .ok (.iload_n 1, 1) := by decide +kernel
theorem dX6_matchOf_3 : decode cX6_matchOf 3 = .ok (.invokevirtual 194, 3) := by decide +kernel
theorem dX6_matchOf_6 : decode cX6_matchOf 6 = .ok (.ifCond .ne 7, 3) := by decide +kernel
theorem dX6_matchOf_9 : decode cX6_matchOf 9 = .ok (.iconst 1, 1) := by decide +kernel
theorem dX6_matchOf_10 : decode cX6_matchOf 10 = .ok (.goto 29, 3) := by decide +kernel
theorem dX6_matchOf_13 : decode cX6_matchOf 13 = .ok (.iload_n 2, 1) := by decide +kernel
theorem dX6_matchOf_14 : decode cX6_matchOf 14 = .ok (.invokestatic 207, 3) := by decide +kernel
theorem dX6_matchOf_17 : decode cX6_matchOf 17 = .ok (.ifCond .eq 21, 3) := by decide +kernel
theorem dX6_matchOf_20 : decode cX6_matchOf 20 = .ok (.aload_n 0, 1) := by decide +kernel
theorem dX6_matchOf_21 : decode cX6_matchOf 21 = .ok (.getfield 13, 3) := by decide +kernel
theorem dX6_matchOf_24 : decode cX6_matchOf 24 = .ok (.iload_n 1, 1) := by decide +kernel
theorem dX6_matchOf_25 : decode cX6_matchOf 25 = .ok (.iaload, 1) := by decide +kernel
theorem dX6_matchOf_26 : decode cX6_matchOf 26 = .ok (.iload_n 2, 1) := by decide +kernel
theorem dX6_matchOf_27 : decode cX6_matchOf 27 = .ok (.ishr, 1) := by decide +kernel
theorem dX6_matchOf_28 : decode cX6_matchOf 28 = .ok (.iconst 1, 1) := by decide +kernel
theorem dX6_matchOf_29 : decode cX6_matchOf 29 = .ok (.iand, 1) := by decide +kernel
theorem dX6_matchOf_30 : decode cX6_matchOf 30 = .ok (.iconst 1, 1) := by decide +kernel
theorem dX6_matchOf_31 : decode cX6_matchOf 31 = .ok (.if_icmp .ne 7, 3) := by decide +kernel
theorem dX6_matchOf_34 : decode cX6_matchOf 34 = .ok (.iconst 0, 1) := by decide +kernel
theorem dX6_matchOf_35 : decode cX6_matchOf 35 = .ok (.goto 4, 3) := by decide +kernel
theorem dX6_matchOf_38 : decode cX6_matchOf 38 = .ok (.iconst 2, 1) := by decide +kernel
theorem dX6_matchOf_39 : decode cX6_matchOf 39 = .ok (.putfield 117, 3) := by decide +kernel
theorem dX6_matchOf_42 : decode cX6_matchOf 42 = .ok (.aload_n 0, 1) := by decide +kernel
theorem dX6_matchOf_43 : decode cX6_matchOf 43 = .ok (.getfield 117, 3) := by decide +kernel
theorem dX6_matchOf_46 : decode cX6_matchOf 46 = .ok (.ifCond .le 5, 3) := by decide +kernel
theorem dX6_matchOf_49 : decode cX6_matchOf 49 = .ok (.iconst 0, 1) := by decide +kernel
theorem dX6_matchOf_50 : decode cX6_matchOf 50 = .ok (.ireturn, 1) := by decide +kernel
theorem dX6_matchOf_51 : decode cX6_matchOf 51 = .ok (.aload_n 0, 1) := by decide +kernel
theorem dX6_matchOf_52 : decode cX6_matchOf 52 = .ok (.iload_n 1, 1) := by decide +kernel
theorem dX6_matchOf_53 : decode cX6_matchOf 53 = .ok (.invokevirtual 233, 3) := by decide +kernel
theorem dX6_matchOf_56 : decode cX6_matchOf 56 = .ok (.ifCond .eq 12, 3) := by decide +kernel
theorem dX6_matchOf_59 : decode cX6_matchOf 59 = .ok (.aload_n 0, 1) := by decide +kernel
theorem dX6_matchOf_60 : decode cX6_matchOf 60 = .ok (.getfield 81, 3) := by decide +kernel
theorem dX6_matchOf_63 : decode cX6_matchOf 63 = .ok (.iload_n 2, 1) := by decide +kernel
theorem dX6_matchOf_64 : decode cX6_matchOf 64 = .ok (.iaload, 1) := by decide +kernel
theorem dX6_matchOf_65 : decode cX6_matchOf 65 = .ok (.goto 4, 3) := by decide +kernel
theorem dX6_matchOf_68 : decode cX6_matchOf 68 = .ok (.iconst (-1), 1) := by decide +kernel
theorem dX6_matchOf_69 : decode cX6_matchOf 69 = .ok (.ireturn, 1) := by decide +kernel
theorem dX6_nextNow_0 : decode cX6_nextNow 0 = .ok (.aload_n 0, 1) := by decide +kernel
theorem dX6_nextNow_1 : decode cX6_nextNow 1 = .ok (.invokevirtual 242, 3) := by decide +kernel
theorem dX6_nextNow_4 : decode cX6_nextNow 4 = .ok (.istore_n 1, 1) := by decide +kernel
theorem dX6_nextNow_5 : decode cX6_nextNow 5 = .ok (.iconst (-1), 1) := by decide +kernel
theorem dX6_nextNow_6 : decode cX6_nextNow 6 = .ok (.istore_n 2, 1) := by decide +kernel
theorem dX6_nextNow_7 : decode cX6_nextNow 7 = .ok (.iconst 0, 1) := by decide +kernel
theorem dX6_nextNow_8 : decode cX6_nextNow 8 = .ok (.istore_n 3, 1) := by decide +kernel
theorem dX6_nextNow_9 : decode cX6_nextNow 9 = .ok (.iload_n 3, 1) := by decide +kernel
theorem dX6_nextNow_10 : decode cX6_nextNow 10 = .ok (.aload_n 0, 1) := by decide +kernel
theorem dX6_nextNow_11 : decode cX6_nextNow 11 = .ok (.getfield 188, 3) := by decide +kernel
theorem dX6_nextNow_14 : decode cX6_nextNow 14 = .ok (.if_icmp .ge 94, 3) := by decide +kernel
theorem dX6_nextNow_17 : decode cX6_nextNow 17 = .ok (.aload_n 0, 1) := by decide +kernel
theorem dX6_nextNow_18 : decode cX6_nextNow 18 = .ok (.getfield 201, 3) := by decide +kernel
theorem dX6_nextNow_21 : decode cX6_nextNow 21 = .ok (.iconst 1, 1) := by decide +kernel
theorem dX6_nextNow_22 : decode cX6_nextNow 22 = .ok (.if_icmp .ne 19, 3) := by decide +kernel
theorem dX6_nextNow_25 : decode cX6_nextNow 25 = .ok (.aload_n 0, 1) := by decide +kernel
theorem dX6_nextNow_26 : decode cX6_nextNow 26 = .ok (.getfield 37, 3) := by decide +kernel
theorem dX6_nextNow_29 : decode cX6_nextNow 29 = .ok (.iconst 1, 1) := by decide +kernel
theorem dX6_nextNow_30 : decode cX6_nextNow 30 = .ok (.iadd, 1) := by decide +kernel
theorem dX6_nextNow_31 : decode cX6_nextNow 31 = .ok (.iload_n 3, 1) := by decide +kernel
theorem dX6_nextNow_32 : decode cX6_nextNow 32 = .ok (.iadd, 1) := by decide +kernel
theorem dX6_nextNow_33 : decode cX6_nextNow 33 = .ok (.aload_n 0, 1) := by decide +kernel
theorem dX6_nextNow_34 : decode cX6_nextNow 34 = .ok (.getfield 188, 3) := by decide +kernel
theorem dX6_nextNow_37 : decode cX6_nextNow 37 = .ok (.irem, 1) := by decide +kernel
theorem dX6_nextNow_38 : decode cX6_nextNow 38 = .ok (.goto 4, 3) := by decide +kernel
theorem dX6_nextNow_41 : decode cX6_nextNow 41 = .ok (.iload_n 3, 1) := by decide +kernel
theorem dX6_nextNow_42 : decode cX6_nextNow 42 = .ok (.istore 4, 2) := by decide +kernel
theorem dX6_nextNow_44 : decode cX6_nextNow 44 = .ok (.iload_n 1, 1) := by decide +kernel
theorem dX6_nextNow_45 : decode cX6_nextNow 45 = .ok (.iload 4, 2) := by decide +kernel
theorem dX6_nextNow_47 : decode cX6_nextNow 47 = .ok (.ishr, 1) := by decide +kernel
theorem dX6_nextNow_48 : decode cX6_nextNow 48 = .ok (.iconst 1, 1) := by decide +kernel
theorem dX6_nextNow_49 : decode cX6_nextNow 49 = .ok (.iand, 1) := by decide +kernel
theorem dX6_nextNow_50 : decode cX6_nextNow 50 = .ok (.iconst 1, 1) := by decide +kernel
theorem dX6_nextNow_51 : decode cX6_nextNow 51 = .ok (.if_icmp .ne 36, 3) := by decide +kernel
theorem dX6_nextNow_54 : decode cX6_nextNow 54 = .ok (.iload_n 2, 1) := by decide +kernel
theorem dX6_nextNow_55 : decode cX6_nextNow 55 = .ok (.iconst (-1), 1) := by decide +kernel
theorem dX6_nextNow_56 : decode cX6_nextNow 56 = .ok (.if_icmp .eq 27, 3) := by decide +kernel
theorem dX6_nextNow_59 : decode cX6_nextNow 59 = .ok (.aload_n 0, 1) := by decide +kernel
theorem dX6_nextNow_60 : decode cX6_nextNow 60 = .ok (.getfield 201, 3) := by decide +kernel
theorem dX6_nextNow_63 : decode cX6_nextNow 63 = .ok (.iconst 2, 1) := by decide +kernel
theorem dX6_nextNow_64 : decode cX6_nextNow 64 = .ok (.if_icmp .ne 23, 3) := by decide +kernel
theorem dX6_nextNow_67 : decode cX6_nextNow 67 = .ok (.aload_n 0, 1) := by decide +kernel
theorem dX6_nextNow_68 : decode cX6_nextNow 68 = .ok (.getfield 34, 3) := by decide +kernel
theorem dX6_nextNow_71 : decode cX6_nextNow 71 = .ok (.iload 4, 2) := by decide +kernel
theorem dX6_nextNow_73 : decode cX6_nextNow 73 = .ok (.iaload, 1) := by decide +kernel
theorem dX6_nextNow_74 : decode cX6_nextNow 74 = .ok (.aload_n 0, 1) := by decide +kernel
theorem dX6_nextNow_75 : decode cX6_nextNow 75 = .ok (.getfield 34, 3) := by decide +kernel
theorem dX6_nextNow_78 : decode cX6_nextNow 78 = .ok (.iload_n 2, 1) := by decide +kernel
theorem dX6_nextNow_79 : decode cX6_nextNow 79 = .ok (.iaload, 1) := by decide +kernel
theorem dX6_nextNow_80 : decode cX6_nextNow 80 = .ok (.if_icmp .ge 7, 3) := by decide +kernel
theorem dX6_nextNow_83 : decode cX6_nextNow 83 = .ok (.iconst 1, 1) := by decide +kernel
theorem dX6_nextNow_84 : decode cX6_nextNow 84 = .ok (.goto 4, 3) := by decide +kernel
theorem dX6_nextNow_87 : decode cX6_nextNow 87 = .ok (.iconst 0, 1) := by decide +kernel
theorem dX6_nextNow_88 : decode cX6_nextNow 88 = .ok (.istore 5, 2) := by decide +kernel
theorem dX6_nextNow_90 : decode cX6_nextNow 90 = .ok (.iload 5, 2) := by decide +kernel
theorem dX6_nextNow_92 : decode cX6_nextNow 92 = .ok (.ifCond .eq 8, 3) := by decide +kernel
theorem dX6_nextNow_95 : decode cX6_nextNow 95 = .ok (.iload 4, 2) := by decide +kernel
theorem dX6_nextNow_97 : decode cX6_nextNow 97 = .ok (.goto 4, 3) := by decide +kernel
theorem dX6_nextNow_100 : decode cX6_nextNow 100 = .ok (.iload_n 2, 1) := by decide +kernel
theorem dX6_nextNow_101 : decode cX6_nextNow 101 = .ok (.istore_n 2, 1) := by decide +kernel
theorem dX6_nextNow_102 : decode cX6_nextNow 102 = .ok (.iinc 3 1, 3) := by decide +kernel
theorem dX6_nextNow_105 : decode cX6_nextNow 105 = .ok (.goto (-96), 3) := by decide +kernel
theorem dX6_nextNow_108 : decode cX6_nextNow 108 = .ok (.iload_n 2, 1) := by decide +kernel
theorem dX6_nextNow_109 : decode cX6_nextNow 109 = .ok (.ireturn, 1) := by decide +kernel
theorem dX6_nextRule_0 : decode cX6_nextRule 0 = .ok (.aload_n 0, 1) := by decide +kernel
theorem dX6_nextRule_1 : decode cX6_nextRule 1 = .ok (.iconst 0, 1) := by decide +kernel
theorem dX6_nextRule_2 : decode cX6_nextRule 2 = .ok (.putfield 117, 3) := by decide +kernel
theorem dX6_nextRule_5 : decode cX6_nextRule 5 = .ok (.aload_n 0, 1) := by decide +kernel
theorem dX6_nextRule_6 : decode cX6_nextRule 6 = .ok (.invokevirtual 245, 3) := by decide +kernel
theorem dX6_nextRule_9 : decode cX6_nextRule 9 = .ok (.ireturn, 1) := by decide +kernel
theorem dX6_consume_0 : decode cX6_consume 0 = .ok (.bipush 8, 2) := by decide +kernel
theorem dX6_consume_2 : decode cX6_consume 2 = .ok (.iload_n 1, 1) := by decide +kernel
theorem dX6_consume_3 : decode cX6_consume 3 = .ok (.imul, 1) := by decide +kernel
theorem dX6_consume_4 : decode cX6_consume 4 = .ok (.aload_n 0, 1) := by decide +kernel
theorem dX6_consume_5 : decode cX6_consume 5 = .ok (.getfield 81, 3) := by decide +kernel
theorem dX6_consume_8 : decode cX6_consume 8 = .ok (.iload_n 1, 1) := by decide +kernel
theorem dX6_consume_9 : decode cX6_consume 9 = .ok (.iaload, 1) := by decide +kernel
theorem dX6_consume_10 : decode cX6_consume 10 = .ok (.iadd, 1) := by decide +kernel
theorem dX6_consume_11 : decode cX6_consume 11 = .ok (.istore_n 2, 1) := by decide +kernel
theorem dX6_consume_12 : decode cX6_consume 12 = .ok (.aload_n 0, 1) := by decide +kernel
theorem dX6_consume_13 : decode cX6_consume 13 = .ok (.getfield 84, 3) := by decide +kernel
theorem dX6_consume_16 : decode cX6_consume 16 = .ok (.iload_n 1, 1) := by decide +kernel
theorem dX6_consume_17 : decode cX6_consume 17 = .ok (.aload_n 0, 1) := by decide +kernel
theorem dX6_consume_18 : decode cX6_consume 18 = .ok (.getfield 44, 3) := by decide +kernel
theorem dX6_consume_21 : decode cX6_consume 21 = .ok (.iload_n 2, 1) := by decide +kernel
theorem dX6_consume_22 : decode cX6_consume 22 = .ok (.iaload, 1) := by decide +kernel
theorem dX6_consume_23 : decode cX6_consume 23 = .ok (.iastore, 1) := by decide +kernel
theorem dX6_consume_24 : decode cX6_consume 24 = .ok (.aload_n 0, 1) := by decide +kernel
theorem dX6_consume_25 : decode cX6_consume 25 = .ok (.getfield 87, 3) := by decide +kernel
theorem dX6_consume_28 : decode cX6_consume 28 = .ok (.iload_n 1, 1) := by decide +kernel
theorem dX6_consume_29 : decode cX6_consume 29 = .ok (.aload_n 0, 1) := by decide +kernel
theorem dX6_consume_30 : decode cX6_consume 30 = .ok (.getfield 50, 3) := by decide +kernel
theorem dX6_consume_33 : decode cX6_consume 33 = .ok (.iload_n 2, 1) := by decide +kernel
theorem dX6_consume_34 : decode cX6_consume 34 = .ok (.iaload, 1) := by decide +kernel
theorem dX6_consume_35 : decode cX6_consume 35 = .ok (.iastore, 1) := by decide +kernel
theorem dX6_consume_36 : decode cX6_consume 36 = .ok (.aload_n 0, 1) := by decide +kernel
theorem dX6_consume_37 : decode cX6_consume 37 = .ok (.getfield 59, 3) := by decide +kernel
theorem dX6_consume_40 : decode cX6_consume 40 = .ok (.iload_n 1, 1) := by decide +kernel
theorem dX6_consume_41 : decode cX6_consume 41 = .ok (.dup2, 1) := by decide +kernel
theorem dX6_consume_42 : decode cX6_consume 42 = .ok (.iaload, 1) := by decide +kernel
theorem dX6_consume_43 : decode cX6_consume 43 = .ok (.iconst 1, 1) := by decide +kernel
theorem dX6_consume_44 : decode cX6_consume 44 = .ok (.iadd, 1) := by decide +kernel
theorem dX6_consume_45 : decode cX6_consume 45 = .ok (.iastore, 1) := by decide +kernel
theorem dX6_consume_46 : decode cX6_consume 46 = .ok (.aload_n 0, 1) := by decide +kernel
theorem dX6_consume_47 : decode cX6_consume 47 = .ok (.getfield 62, 3) := by decide +kernel
theorem dX6_consume_50 : decode cX6_consume 50 = .ok (.iload_n 1, 1) := by decide +kernel
theorem dX6_consume_51 : decode cX6_consume 51 = .ok (.dup2, 1) := by decide +kernel
theorem dX6_consume_52 : decode cX6_consume 52 = .ok (.laload, 1) := by decide +kernel
theorem dX6_consume_53 : decode cX6_consume 53 = .ok (.aload_n 0, 1) := by decide +kernel
theorem dX6_consume_54 : decode cX6_consume 54 = .ok (.getfield 204, 3) := by decide +kernel
theorem dX6_consume_57 : decode cX6_consume 57 = .ok (.aload_n 0, 1) := by decide +kernel
theorem dX6_consume_58 : decode cX6_consume 58 = .ok (.getfield 47, 3) := by decide +kernel
theorem dX6_consume_61 : decode cX6_consume 61 = .ok (.iload_n 2, 1) := by decide +kernel
theorem dX6_consume_62 : decode cX6_consume 62 = .ok (.iaload, 1) := by decide +kernel
theorem dX6_consume_63 : decode cX6_consume 63 = .ok (.isub, 1) := by decide +kernel
theorem dX6_consume_64 : decode cX6_consume 64 = .ok (.i2l, 1) := by decide +kernel
theorem dX6_consume_65 : decode cX6_consume 65 = .ok (.ladd, 1) := by decide +kernel
theorem dX6_consume_66 : decode cX6_consume 66 = .ok (.lastore, 1) := by decide +kernel
theorem dX6_consume_67 : decode cX6_consume 67 = .ok (.aload_n 0, 1) := by decide +kernel
theorem dX6_consume_68 : decode cX6_consume 68 = .ok (.getfield 41, 3) := by decide +kernel
theorem dX6_consume_71 : decode cX6_consume 71 = .ok (.iload_n 1, 1) := by decide +kernel
theorem dX6_consume_72 : decode cX6_consume 72 = .ok (.dup2, 1) := by decide +kernel
theorem dX6_consume_73 : decode cX6_consume 73 = .ok (.iaload, 1) := by decide +kernel
theorem dX6_consume_74 : decode cX6_consume 74 = .ok (.iconst 1, 1) := by decide +kernel
theorem dX6_consume_75 : decode cX6_consume 75 = .ok (.isub, 1) := by decide +kernel
theorem dX6_consume_76 : decode cX6_consume 76 = .ok (.iastore, 1) := by decide +kernel
theorem dX6_consume_77 : decode cX6_consume 77 = .ok (.aload_n 0, 1) := by decide +kernel
theorem dX6_consume_78 : decode cX6_consume 78 = .ok (.getfield 81, 3) := by decide +kernel
theorem dX6_consume_81 : decode cX6_consume 81 = .ok (.iload_n 1, 1) := by decide +kernel
theorem dX6_consume_82 : decode cX6_consume 82 = .ok (.iaload, 1) := by decide +kernel
theorem dX6_consume_83 : decode cX6_consume 83 = .ok (.istore_n 3, 1) := by decide +kernel
theorem dX6_consume_84 : decode cX6_consume 84 = .ok (.iload_n 3, 1) := by decide +kernel
theorem dX6_consume_85 : decode cX6_consume 85 = .ok (.aload_n 0, 1) := by decide +kernel
theorem dX6_consume_86 : decode cX6_consume 86 = .ok (.getfield 41, 3) := by decide +kernel
theorem dX6_consume_89 : decode cX6_consume 89 = .ok (.iload_n 1, 1) := by decide +kernel
theorem dX6_consume_90 : decode cX6_consume 90 = .ok (.iaload, 1) := by decide +kernel
theorem dX6_consume_91 : decode cX6_consume 91 = .ok (.if_icmp .ge 65, 3) := by decide +kernel
theorem dX6_consume_94 : decode cX6_consume 94 = .ok (.bipush 8, 2) := by decide +kernel
theorem dX6_consume_96 : decode cX6_consume 96 = .ok (.iload_n 1, 1) := by decide +kernel
theorem dX6_consume_97 : decode cX6_consume 97 = .ok (.imul, 1) := by decide +kernel
theorem dX6_consume_98 : decode cX6_consume 98 = .ok (.iload_n 3, 1) := by decide +kernel
theorem dX6_consume_99 : decode cX6_consume 99 = .ok (.iadd, 1) := by decide +kernel
theorem dX6_consume_100 : decode cX6_consume 100 = .ok (.istore 4, 2) := by decide +kernel
theorem dX6_consume_102 : decode cX6_consume 102 = .ok (.aload_n 0, 1) := by decide +kernel
theorem dX6_consume_103 : decode cX6_consume 103 = .ok (.getfield 44, 3) := by decide +kernel
theorem dX6_consume_106 : decode cX6_consume 106 = .ok (.iload 4, 2) := by decide +kernel
theorem dX6_consume_108 : decode cX6_consume 108 = .ok (.aload_n 0, 1) := by decide +kernel
theorem dX6_consume_109 : decode cX6_consume 109 = .ok (.getfield 44, 3) := by decide +kernel
theorem dX6_consume_112 : decode cX6_consume 112 = .ok (.iload 4, 2) := by decide +kernel
theorem dX6_consume_114 : decode cX6_consume 114 = .ok (.iconst 1, 1) := by decide +kernel
theorem dX6_consume_115 : decode cX6_consume 115 = .ok (.iadd, 1) := by decide +kernel
theorem dX6_consume_116 : decode cX6_consume 116 = .ok (.iaload, 1) := by decide +kernel
theorem dX6_consume_117 : decode cX6_consume 117 = .ok (.iastore, 1) := by decide +kernel
theorem dX6_consume_118 : decode cX6_consume 118 = .ok (.aload_n 0, 1) := by decide +kernel
theorem dX6_consume_119 : decode cX6_consume 119 = .ok (.getfield 47, 3) := by decide +kernel
theorem dX6_consume_122 : decode cX6_consume 122 = .ok (.iload 4, 2) := by decide +kernel
theorem dX6_consume_124 : decode cX6_consume 124 = .ok (.aload_n 0, 1) := by decide +kernel
theorem dX6_consume_125 : decode cX6_consume 125 = .ok (.getfield 47, 3) := by decide +kernel
theorem dX6_consume_128 : decode cX6_consume 128 = .ok (.iload 4, 2) := by decide +kernel
theorem dX6_consume_130 : decode cX6_consume 130 = .ok (.iconst 1, 1) := by decide +kernel
theorem dX6_consume_131 : decode cX6_consume 131 = .ok (.iadd, 1) := by decide +kernel
theorem dX6_consume_132 : decode cX6_consume 132 = .ok (.iaload, 1) := by decide +kernel
theorem dX6_consume_133 : decode cX6_consume 133 = .ok (.iastore, 1) := by decide +kernel
theorem dX6_consume_134 : decode cX6_consume 134 = .ok (.aload_n 0, 1) := by decide +kernel
theorem dX6_consume_135 : decode cX6_consume 135 = .ok (.getfield 50, 3) := by decide +kernel
theorem dX6_consume_138 : decode cX6_consume 138 = .ok (.iload 4, 2) := by decide +kernel
theorem dX6_consume_140 : decode cX6_consume 140 = .ok (.aload_n 0, 1) := by decide +kernel
theorem dX6_consume_141 : decode cX6_consume 141 = .ok (.getfield 50, 3) := by decide +kernel
theorem dX6_consume_144 : decode cX6_consume 144 = .ok (.iload 4, 2) := by decide +kernel
theorem dX6_consume_146 : decode cX6_consume 146 = .ok (.iconst 1, 1) := by decide +kernel
theorem dX6_consume_147 : decode cX6_consume 147 = .ok (.iadd, 1) := by decide +kernel
theorem dX6_consume_148 : decode cX6_consume 148 = .ok (.iaload, 1) := by decide +kernel
theorem dX6_consume_149 : decode cX6_consume 149 = .ok (.iastore, 1) := by decide +kernel
theorem dX6_consume_150 : decode cX6_consume 150 = .ok (.iinc 3 1, 3) := by decide +kernel
theorem dX6_consume_153 : decode cX6_consume 153 = .ok (.goto (-69), 3) := by decide +kernel
theorem dX6_consume_156 : decode cX6_consume 156 = .ok (.return_, 1) := by decide +kernel
theorem dX6_computed_0 : decode cX6_computed 0 = .ok (.iconst 3, 1) := by decide +kernel
theorem dX6_computed_1 : decode cX6_computed 1 = .ok (.iconst 4, 1) := by decide +kernel
theorem dX6_computed_2 : decode cX6_computed 2 = .ok (.iload_n 1, 1) := by decide +kernel
theorem dX6_computed_3 : decode cX6_computed 3 = .ok (.imul, 1) := by decide +kernel
theorem dX6_computed_4 : decode cX6_computed 4 = .ok (.iload_n 2, 1) := by decide +kernel
theorem dX6_computed_5 : decode cX6_computed 5 = .ok (.iadd, 1) := by decide +kernel
theorem dX6_computed_6 : decode cX6_computed 6 = .ok (.imul, 1) := by decide +kernel
theorem dX6_computed_7 : decode cX6_computed 7 = .ok (.istore_n 3, 1) := by decide +kernel
theorem dX6_computed_8 : decode cX6_computed 8 = .ok (.lconst 0, 1) := by decide +kernel
theorem dX6_computed_9 : decode cX6_computed 9 = .ok (.lstore 4, 2) := by decide +kernel
theorem dX6_computed_11 : decode cX6_computed 11 = .ok (.iconst 0, 1) := by decide +kernel
theorem dX6_computed_12 : decode cX6_computed 12 = .ok (.istore 6, 2) := by decide +kernel
theorem dX6_computed_14 : decode cX6_computed 14 = .ok (.iload 6, 2) := by decide +kernel
theorem dX6_computed_16 : decode cX6_computed 16 = .ok (.aload_n 0, 1) := by decide +kernel
theorem dX6_computed_17 : decode cX6_computed 17 = .ok (.getfield 25, 3) := by decide +kernel
theorem dX6_computed_20 : decode cX6_computed 20 = .ok (.iconst 4, 1) := by decide +kernel
theorem dX6_computed_21 : decode cX6_computed 21 = .ok (.iload_n 1, 1) := by decide +kernel
theorem dX6_computed_22 : decode cX6_computed 22 = .ok (.imul, 1) := by decide +kernel
theorem dX6_computed_23 : decode cX6_computed 23 = .ok (.iload_n 2, 1) := by decide +kernel
theorem dX6_computed_24 : decode cX6_computed 24 = .ok (.iadd, 1) := by decide +kernel
theorem dX6_computed_25 : decode cX6_computed 25 = .ok (.iaload, 1) := by decide +kernel
theorem dX6_computed_26 : decode cX6_computed 26 = .ok (.if_icmp .ge 104, 3) := by decide +kernel
theorem dX6_computed_29 : decode cX6_computed 29 = .ok (.aload_n 0, 1) := by decide +kernel
theorem dX6_computed_30 : decode cX6_computed 30 = .ok (.getfield 28, 3) := by decide +kernel
theorem dX6_computed_33 : decode cX6_computed 33 = .ok (.iload_n 3, 1) := by decide +kernel
theorem dX6_computed_34 : decode cX6_computed 34 = .ok (.iload 6, 2) := by decide +kernel
theorem dX6_computed_36 : decode cX6_computed 36 = .ok (.iadd, 1) := by decide +kernel
theorem dX6_computed_37 : decode cX6_computed 37 = .ok (.iaload, 1) := by decide +kernel
theorem dX6_computed_38 : decode cX6_computed 38 = .ok (.istore 7, 2) := by decide +kernel
theorem dX6_computed_40 : decode cX6_computed 40 = .ok (.iload 7, 2) := by decide +kernel
theorem dX6_computed_42 : decode cX6_computed 42 = .ok (.bipush 8, 2) := by decide +kernel
theorem dX6_computed_44 : decode cX6_computed 44 = .ok (.if_icmp .ge 14, 3) := by decide +kernel
theorem dX6_computed_47 : decode cX6_computed 47 = .ok (.aload_n 0, 1) := by decide +kernel
theorem dX6_computed_48 : decode cX6_computed 48 = .ok (.getfield 84, 3) := by decide +kernel
theorem dX6_computed_51 : decode cX6_computed 51 = .ok (.iload 7, 2) := by decide +kernel
theorem dX6_computed_53 : decode cX6_computed 53 = .ok (.iaload, 1) := by decide +kernel
theorem dX6_computed_54 : decode cX6_computed 54 = .ok (.i2l, 1) := by decide +kernel
theorem dX6_computed_55 : decode cX6_computed 55 = .ok (.goto 9, 3) := by decide +kernel
theorem dX6_computed_58 : decode cX6_computed 58 = .ok (.iload 7, 2) := by decide +kernel
theorem dX6_computed_60 : decode cX6_computed 60 = .ok (.bipush 8, 2) := by decide +kernel
theorem dX6_computed_62 : decode cX6_computed 62 = .ok (.isub, 1) := by decide +kernel
theorem dX6_computed_63 : decode cX6_computed 63 = .ok (.i2l, 1) := by decide +kernel
theorem dX6_computed_64 : decode cX6_computed 64 = .ok (.lstore 8, 2) := by decide +kernel
theorem dX6_computed_66 : decode cX6_computed 66 = .ok (.aload_n 0, 1) := by decide +kernel
theorem dX6_computed_67 : decode cX6_computed 67 = .ok (.getfield 31, 3) := by decide +kernel
theorem dX6_computed_70 : decode cX6_computed 70 = .ok (.iload_n 3, 1) := by decide +kernel
theorem dX6_computed_71 : decode cX6_computed 71 = .ok (.iload 6, 2) := by decide +kernel
theorem dX6_computed_73 : decode cX6_computed 73 = .ok (.iadd, 1) := by decide +kernel
theorem dX6_computed_74 : decode cX6_computed 74 = .ok (.iaload, 1) := by decide +kernel
theorem dX6_computed_75 : decode cX6_computed 75 = .ok (.istore 10, 2) := by decide +kernel
theorem dX6_computed_77 : decode cX6_computed 77 = .ok (.iload 6, 2) := by decide +kernel
theorem dX6_computed_79 : decode cX6_computed 79 = .ok (.ifCond .ne 8, 3) := by decide +kernel
theorem dX6_computed_82 : decode cX6_computed 82 = .ok (.lload 8, 2) := by decide +kernel
theorem dX6_computed_84 : decode cX6_computed 84 = .ok (.goto 38, 3) := by decide +kernel
theorem dX6_computed_87 : decode cX6_computed 87 = .ok (.iload 10, 2) := by decide +kernel
theorem dX6_computed_89 : decode cX6_computed 89 = .ok (.bipush 43, 2) := by decide +kernel
theorem dX6_computed_91 : decode cX6_computed 91 = .ok (.if_icmp .ne 11, 3) := by decide +kernel
theorem dX6_computed_94 : decode cX6_computed 94 = .ok (.lload 4, 2) := by decide +kernel
theorem dX6_computed_96 : decode cX6_computed 96 = .ok (.lload 8, 2) := by decide +kernel
theorem dX6_computed_98 : decode cX6_computed 98 = .ok (.ladd, 1) := by decide +kernel
theorem dX6_computed_99 : decode cX6_computed 99 = .ok (.goto 23, 3) := by decide +kernel
theorem dX6_computed_102 : decode cX6_computed 102 = .ok (.iload 10, 2) := by decide +kernel
theorem dX6_computed_104 : decode cX6_computed 104 = .ok (.bipush 45, 2) := by decide +kernel
theorem dX6_computed_106 : decode cX6_computed 106 = .ok (.if_icmp .ne 11, 3) := by decide +kernel
theorem dX6_computed_109 : decode cX6_computed 109 = .ok (.lload 4, 2) := by decide +kernel
theorem dX6_computed_111 : decode cX6_computed 111 = .ok (.lload 8, 2) := by decide +kernel
theorem dX6_computed_113 : decode cX6_computed 113 = .ok (.lsub, 1) := by decide +kernel
theorem dX6_computed_114 : decode cX6_computed 114 = .ok (.goto 8, 3) := by decide +kernel
theorem dX6_computed_117 : decode cX6_computed 117 = .ok (.lload 4, 2) := by decide +kernel
theorem dX6_computed_119 : decode cX6_computed 119 = .ok (.lload 8, 2) := by decide +kernel
theorem dX6_computed_121 : decode cX6_computed 121 = .ok (.lmul, 1) := by decide +kernel
theorem dX6_computed_122 : decode cX6_computed 122 = .ok (.lstore 4, 2) := by decide +kernel
theorem dX6_computed_124 : decode cX6_computed 124 = .ok (.iinc 6 1, 3) := by decide +kernel
theorem dX6_computed_127 : decode cX6_computed 127 = .ok (.goto (-113), 3) := by decide +kernel
theorem dX6_computed_130 : decode cX6_computed 130 = .ok (.lload 4, 2) := by decide +kernel
theorem dX6_computed_132 : decode cX6_computed 132 = .ok (.ldc2_w 248, 3) := by decide +kernel
theorem dX6_computed_135 : decode cX6_computed 135 = .ok (.lcmp, 1) := by decide +kernel
theorem dX6_computed_136 : decode cX6_computed 136 = .ok (.ifCond .le 9, 3) := by decide +kernel
theorem dX6_computed_139 : decode cX6_computed 139 = .ok (.ldc2_w 248, 3) := by decide +kernel
theorem dX6_computed_142 : decode cX6_computed 142 = .ok (.goto 20, 3) := by decide +kernel
theorem dX6_computed_145 : decode cX6_computed 145 = .ok (.lload 4, 2) := by decide +kernel
theorem dX6_computed_147 : decode cX6_computed 147 = .ok (.ldc2_w 250, 3) := by decide +kernel
theorem dX6_computed_150 : decode cX6_computed 150 = .ok (.lcmp, 1) := by decide +kernel
theorem dX6_computed_151 : decode cX6_computed 151 = .ok (.ifCond .ge 9, 3) := by decide +kernel
theorem dX6_computed_154 : decode cX6_computed 154 = .ok (.ldc2_w 250, 3) := by decide +kernel
theorem dX6_computed_157 : decode cX6_computed 157 = .ok (.goto 5, 3) := by decide +kernel
theorem dX6_computed_160 : decode cX6_computed 160 = .ok (.lload 4, 2) := by decide +kernel
theorem dX6_computed_162 : decode cX6_computed 162 = .ok (.l2i, 1) := by decide +kernel
theorem dX6_computed_163 : decode cX6_computed 163 = .ok (.ireturn, 1) := by decide +kernel
theorem dX6_isKnown_0 : decode cX6_isKnown 0 = .ok (.iload_n 1, 1) := by decide +kernel
theorem dX6_isKnown_1 : decode cX6_isKnown 1 = .ok (.ifCond .lt 26, 3) := by decide +kernel
theorem dX6_isKnown_4 : decode cX6_isKnown 4 = .ok (.iload_n 1, 1) := by decide +kernel
theorem dX6_isKnown_5 : decode cX6_isKnown 5 = .ok (.aload_n 0, 1) := by decide +kernel
theorem dX6_isKnown_6 : decode cX6_isKnown 6 = .ok (.getfield 210, 3) := by decide +kernel
theorem dX6_isKnown_9 : decode cX6_isKnown 9 = .ok (.if_icmp .ge 18, 3) := by decide +kernel
theorem dX6_isKnown_12 : decode cX6_isKnown 12 = .ok (.iload_n 1, 1) := by decide +kernel
theorem dX6_isKnown_13 : decode cX6_isKnown 13 = .ok (.aload_n 0, 1) := by decide +kernel
theorem dX6_isKnown_14 : decode cX6_isKnown 14 = .ok (.getfield 210, 3) := by decide +kernel
theorem dX6_isKnown_17 : decode cX6_isKnown 17 = .ok (.bipush 24, 2) := by decide +kernel
theorem dX6_isKnown_19 : decode cX6_isKnown 19 = .ok (.isub, 1) := by decide +kernel
theorem dX6_isKnown_20 : decode cX6_isKnown 20 = .ok (.if_icmp .lt 7, 3) := by decide +kernel
theorem dX6_isKnown_23 : decode cX6_isKnown 23 = .ok (.iconst 1, 1) := by decide +kernel
theorem dX6_isKnown_24 : decode cX6_isKnown 24 = .ok (.goto 4, 3) := by decide +kernel
theorem dX6_isKnown_27 : decode cX6_isKnown 27 = .ok (.iconst 0, 1) := by decide +kernel
theorem dX6_isKnown_28 : decode cX6_isKnown 28 = .ok (.ireturn, 1) := by decide +kernel
theorem dX6_settle_0 : decode cX6_settle 0 = .ok (.aload_n 0, 1) := by decide +kernel
theorem dX6_settle_1 : decode cX6_settle 1 = .ok (.iload_n 1, 1) := by decide +kernel
theorem dX6_settle_2 : decode cX6_settle 2 = .ok (.invokevirtual 252, 3) := by decide +kernel
theorem dX6_settle_5 : decode cX6_settle 5 = .ok (.ifCond .eq 23, 3) := by decide +kernel
theorem dX6_settle_8 : decode cX6_settle 8 = .ok (.aload_n 0, 1) := by decide +kernel
theorem dX6_settle_9 : decode cX6_settle 9 = .ok (.getfield 53, 3) := by decide +kernel
theorem dX6_settle_12 : decode cX6_settle 12 = .ok (.iload_n 1, 1) := by decide +kernel
theorem dX6_settle_13 : decode cX6_settle 13 = .ok (.bipush 24, 2) := by decide +kernel
theorem dX6_settle_15 : decode cX6_settle 15 = .ok (.irem, 1) := by decide +kernel
theorem dX6_settle_16 : decode cX6_settle 16 = .ok (.iload_n 2, 1) := by decide +kernel
theorem dX6_settle_17 : decode cX6_settle 17 = .ok (.iastore, 1) := by decide +kernel
theorem dX6_settle_18 : decode cX6_settle 18 = .ok (.aload_n 0, 1) := by decide +kernel
theorem dX6_settle_19 : decode cX6_settle 19 = .ok (.getfield 56, 3) := by decide +kernel
theorem dX6_settle_22 : decode cX6_settle 22 = .ok (.iload_n 1, 1) := by decide +kernel
theorem dX6_settle_23 : decode cX6_settle 23 = .ok (.bipush 24, 2) := by decide +kernel
theorem dX6_settle_25 : decode cX6_settle 25 = .ok (.irem, 1) := by decide +kernel
theorem dX6_settle_26 : decode cX6_settle 26 = .ok (.iload_n 3, 1) := by decide +kernel
theorem dX6_settle_27 : decode cX6_settle 27 = .ok (.iastore, 1) := by decide +kernel
theorem dX6_settle_28 : decode cX6_settle 28 = .ok (.return_, 1) := by decide +kernel
theorem dX6_fireNow_0 : decode cX6_fireNow 0 = .ok (.aload_n 0, 1) := by decide +kernel
theorem dX6_fireNow_1 : decode cX6_fireNow 1 = .ok (.iload_n 1, 1) := by decide +kernel
theorem dX6_fireNow_2 : decode cX6_fireNow 2 = .ok (.invokevirtual 233, 3) := by decide +kernel
theorem dX6_fireNow_5 : decode cX6_fireNow 5 = .ok (.istore_n 2, 1) := by decide +kernel
theorem dX6_fireNow_6 : decode cX6_fireNow 6 = .ok (.aload_n 0, 1) := by decide +kernel
theorem dX6_fireNow_7 : decode cX6_fireNow 7 = .ok (.dup, 1) := by decide +kernel
theorem dX6_fireNow_8 : decode cX6_fireNow 8 = .ok (.getfield 204, 3) := by decide +kernel
theorem dX6_fireNow_11 : decode cX6_fireNow 11 = .ok (.iconst 1, 1) := by decide +kernel
theorem dX6_fireNow_12 : decode cX6_fireNow 12 = .ok (.iadd, 1) := by decide +kernel
theorem dX6_fireNow_13 : decode cX6_fireNow 13 = .ok (.putfield 204, 3) := by decide +kernel
theorem dX6_fireNow_16 : decode cX6_fireNow 16 = .ok (.iconst 0, 1) := by decide +kernel
theorem dX6_fireNow_17 : decode cX6_fireNow 17 = .ok (.istore_n 3, 1) := by decide +kernel
theorem dX6_fireNow_18 : decode cX6_fireNow 18 = .ok (.iload_n 3, 1) := by decide +kernel
theorem dX6_fireNow_19 : decode cX6_fireNow 19 = .ok (.bipush 8, 2) := by decide +kernel
theorem dX6_fireNow_21 : decode cX6_fireNow 21 = .ok (.if_icmp .ge 44, 3) := by decide +kernel
theorem dX6_fireNow_24 : decode cX6_fireNow 24 = .ok (.iload_n 2, 1) := by decide +kernel
theorem dX6_fireNow_25 : decode cX6_fireNow 25 = .ok (.ifCond .eq 40, 3) := by decide +kernel
theorem dX6_fireNow_28 : decode cX6_fireNow 28 = .ok (.aload_n 0, 1) := by decide +kernel
theorem dX6_fireNow_29 : decode cX6_fireNow 29 = .ok (.getfield 13, 3) := by decide +kernel
theorem dX6_fireNow_32 : decode cX6_fireNow 32 = .ok (.iload_n 1, 1) := by decide +kernel
theorem dX6_fireNow_33 : decode cX6_fireNow 33 = .ok (.iaload, 1) := by decide +kernel
theorem dX6_fireNow_34 : decode cX6_fireNow 34 = .ok (.iload_n 3, 1) := by decide +kernel
theorem dX6_fireNow_35 : decode cX6_fireNow 35 = .ok (.ishr, 1) := by decide +kernel
theorem dX6_fireNow_36 : decode cX6_fireNow 36 = .ok (.iconst 1, 1) := by decide +kernel
theorem dX6_fireNow_37 : decode cX6_fireNow 37 = .ok (.iand, 1) := by decide +kernel
theorem dX6_fireNow_38 : decode cX6_fireNow 38 = .ok (.iconst 1, 1) := by decide +kernel
theorem dX6_fireNow_39 : decode cX6_fireNow 39 = .ok (.if_icmp .ne 20, 3) := by decide +kernel
theorem dX6_fireNow_42 : decode cX6_fireNow 42 = .ok (.aload_n 0, 1) := by decide +kernel
theorem dX6_fireNow_43 : decode cX6_fireNow 43 = .ok (.iload_n 3, 1) := by decide +kernel
theorem dX6_fireNow_44 : decode cX6_fireNow 44 = .ok (.invokevirtual 255, 3) := by decide +kernel
theorem dX6_fireNow_47 : decode cX6_fireNow 47 = .ok (.aload_n 0, 1) := by decide +kernel
theorem dX6_fireNow_48 : decode cX6_fireNow 48 = .ok (.aload_n 0, 1) := by decide +kernel
theorem dX6_fireNow_49 : decode cX6_fireNow 49 = .ok (.getfield 87, 3) := by decide +kernel
theorem dX6_fireNow_52 : decode cX6_fireNow 52 = .ok (.iload_n 3, 1) := by decide +kernel
theorem dX6_fireNow_53 : decode cX6_fireNow 53 = .ok (.iaload, 1) := by decide +kernel
theorem dX6_fireNow_54 : decode cX6_fireNow 54 = .ok (.iconst 2, 1) := by decide +kernel
theorem dX6_fireNow_55 : decode cX6_fireNow 55 = .ok (.iconst 0, 1) := by decide +kernel
theorem dX6_fireNow_56 : decode cX6_fireNow 56 = .ok (.invokevirtual 259, 3) := by decide +kernel
theorem dX6_fireNow_59 : decode cX6_fireNow 59 = .ok (.iinc 3 1, 3) := by decide +kernel
theorem dX6_fireNow_62 : decode cX6_fireNow 62 = .ok (.goto (-44), 3) := by decide +kernel
theorem dX6_fireNow_65 : decode cX6_fireNow 65 = .ok (.iconst 0, 1) := by decide +kernel
theorem dX6_fireNow_66 : decode cX6_fireNow 66 = .ok (.istore_n 3, 1) := by decide +kernel
theorem dX6_fireNow_67 : decode cX6_fireNow 67 = .ok (.iload_n 3, 1) := by decide +kernel
theorem dX6_fireNow_68 : decode cX6_fireNow 68 = .ok (.aload_n 0, 1) := by decide +kernel
theorem dX6_fireNow_69 : decode cX6_fireNow 69 = .ok (.getfield 19, 3) := by decide +kernel
theorem dX6_fireNow_72 : decode cX6_fireNow 72 = .ok (.iload_n 1, 1) := by decide +kernel
theorem dX6_fireNow_73 : decode cX6_fireNow 73 = .ok (.iaload, 1) := by decide +kernel
theorem dX6_fireNow_74 : decode cX6_fireNow 74 = .ok (.if_icmp .ge 65, 3) := by decide +kernel
theorem dX6_fireNow_77 : decode cX6_fireNow 77 = .ok (.aload_n 0, 1) := by decide +kernel
theorem dX6_fireNow_78 : decode cX6_fireNow 78 = .ok (.getfield 22, 3) := by decide +kernel
theorem dX6_fireNow_81 : decode cX6_fireNow 81 = .ok (.iconst 4, 1) := by decide +kernel
theorem dX6_fireNow_82 : decode cX6_fireNow 82 = .ok (.iload_n 1, 1) := by decide +kernel
theorem dX6_fireNow_83 : decode cX6_fireNow 83 = .ok (.imul, 1) := by decide +kernel
theorem dX6_fireNow_84 : decode cX6_fireNow 84 = .ok (.iload_n 3, 1) := by decide +kernel
theorem dX6_fireNow_85 : decode cX6_fireNow 85 = .ok (.iadd, 1) := by decide +kernel
theorem dX6_fireNow_86 : decode cX6_fireNow 86 = .ok (.iaload, 1) := by decide +kernel
theorem dX6_fireNow_87 : decode cX6_fireNow 87 = .ok (.istore 4, 2) := by decide +kernel
theorem dX6_fireNow_89 : decode cX6_fireNow 89 = .ok (.aload_n 0, 1) := by decide +kernel
theorem dX6_fireNow_90 : decode cX6_fireNow 90 = .ok (.iload_n 1, 1) := by decide +kernel
theorem dX6_fireNow_91 : decode cX6_fireNow 91 = .ok (.iload_n 3, 1) := by decide +kernel
theorem dX6_fireNow_92 : decode cX6_fireNow 92 = .ok (.invokevirtual 262, 3) := by decide +kernel
theorem dX6_fireNow_95 : decode cX6_fireNow 95 = .ok (.istore 5, 2) := by decide +kernel
theorem dX6_fireNow_97 : decode cX6_fireNow 97 = .ok (.iload 4, 2) := by decide +kernel
theorem dX6_fireNow_99 : decode cX6_fireNow 99 = .ok (.bipush 8, 2) := by decide +kernel
theorem dX6_fireNow_101 : decode cX6_fireNow 101 = .ok (.if_icmp .ge 15, 3) := by decide +kernel
theorem dX6_fireNow_104 : decode cX6_fireNow 104 = .ok (.aload_n 0, 1) := by decide +kernel
theorem dX6_fireNow_105 : decode cX6_fireNow 105 = .ok (.iload 4, 2) := by decide +kernel
theorem dX6_fireNow_107 : decode cX6_fireNow 107 = .ok (.iload 5, 2) := by decide +kernel
theorem dX6_fireNow_109 : decode cX6_fireNow 109 = .ok (.iconst (-1), 1) := by decide +kernel
theorem dX6_fireNow_110 : decode cX6_fireNow 110 = .ok (.invokevirtual 213, 3) := by decide +kernel
theorem dX6_fireNow_113 : decode cX6_fireNow 113 = .ok (.goto 20, 3) := by decide +kernel
theorem dX6_fireNow_116 : decode cX6_fireNow 116 = .ok (.aload_n 0, 1) := by decide +kernel
theorem dX6_fireNow_117 : decode cX6_fireNow 117 = .ok (.aload_n 0, 1) := by decide +kernel
theorem dX6_fireNow_118 : decode cX6_fireNow 118 = .ok (.getfield 87, 3) := by decide +kernel
theorem dX6_fireNow_121 : decode cX6_fireNow 121 = .ok (.iload 4, 2) := by decide +kernel
theorem dX6_fireNow_123 : decode cX6_fireNow 123 = .ok (.bipush 8, 2) := by decide +kernel
theorem dX6_fireNow_125 : decode cX6_fireNow 125 = .ok (.isub, 1) := by decide +kernel
theorem dX6_fireNow_126 : decode cX6_fireNow 126 = .ok (.iaload, 1) := by decide +kernel
theorem dX6_fireNow_127 : decode cX6_fireNow 127 = .ok (.iconst 1, 1) := by decide +kernel
theorem dX6_fireNow_128 : decode cX6_fireNow 128 = .ok (.iload 5, 2) := by decide +kernel
theorem dX6_fireNow_130 : decode cX6_fireNow 130 = .ok (.invokevirtual 259, 3) := by decide +kernel
theorem dX6_fireNow_133 : decode cX6_fireNow 133 = .ok (.iinc 3 1, 3) := by decide +kernel
theorem dX6_fireNow_136 : decode cX6_fireNow 136 = .ok (.goto (-69), 3) := by decide +kernel
theorem dX6_fireNow_139 : decode cX6_fireNow 139 = .ok (.aload_n 0, 1) := by decide +kernel
theorem dX6_fireNow_140 : decode cX6_fireNow 140 = .ok (.getfield 34, 3) := by decide +kernel
theorem dX6_fireNow_143 : decode cX6_fireNow 143 = .ok (.iload_n 1, 1) := by decide +kernel
theorem dX6_fireNow_144 : decode cX6_fireNow 144 = .ok (.dup2, 1) := by decide +kernel
theorem dX6_fireNow_145 : decode cX6_fireNow 145 = .ok (.iaload, 1) := by decide +kernel
theorem dX6_fireNow_146 : decode cX6_fireNow 146 = .ok (.iconst 1, 1) := by decide +kernel
theorem dX6_fireNow_147 : decode cX6_fireNow 147 = .ok (.iadd, 1) := by decide +kernel
theorem dX6_fireNow_148 : decode cX6_fireNow 148 = .ok (.iastore, 1) := by decide +kernel
theorem dX6_fireNow_149 : decode cX6_fireNow 149 = .ok (.aload_n 0, 1) := by decide +kernel
theorem dX6_fireNow_150 : decode cX6_fireNow 150 = .ok (.iload_n 1, 1) := by decide +kernel
theorem dX6_fireNow_151 : decode cX6_fireNow 151 = .ok (.putfield 37, 3) := by decide +kernel
theorem dX6_fireNow_154 : decode cX6_fireNow 154 = .ok (.return_, 1) := by decide +kernel
theorem dX6_fire_0 : decode cX6_fire 0 = .ok (.aload_n 0, 1) := by decide +kernel
theorem dX6_fire_1 : decode cX6_fire 1 = .ok (.iconst 0, 1) := by decide +kernel
theorem dX6_fire_2 : decode cX6_fire 2 = .ok (.putfield 117, 3) := by decide +kernel
theorem dX6_fire_5 : decode cX6_fire 5 = .ok (.aload_n 0, 1) := by decide +kernel
theorem dX6_fire_6 : decode cX6_fire 6 = .ok (.invokevirtual 245, 3) := by decide +kernel
theorem dX6_fire_9 : decode cX6_fire 9 = .ok (.istore_n 1, 1) := by decide +kernel
theorem dX6_fire_10 : decode cX6_fire 10 = .ok (.iload_n 1, 1) := by decide +kernel
theorem dX6_fire_11 : decode cX6_fire 11 = .ok (.iconst (-1), 1) := by decide +kernel
theorem dX6_fire_12 : decode cX6_fire 12 = .ok (.if_icmp .eq 8, 3) := by decide +kernel
theorem dX6_fire_15 : decode cX6_fire 15 = .ok (.aload_n 0, 1) := by decide +kernel
theorem dX6_fire_16 : decode cX6_fire 16 = .ok (.iload_n 1, 1) := by decide +kernel
theorem dX6_fire_17 : decode cX6_fire 17 = .ok (.invokevirtual 266, 3) := by decide +kernel
theorem dX6_fire_20 : decode cX6_fire 20 = .ok (.iload_n 1, 1) := by decide +kernel
theorem dX6_fire_21 : decode cX6_fire 21 = .ok (.ireturn, 1) := by decide +kernel
theorem dX6_fireRule_0 : decode cX6_fireRule 0 = .ok (.aload_n 0, 1) := by decide +kernel
theorem dX6_fireRule_1 : decode cX6_fireRule 1 = .ok (.aload_n 0, 1) := by decide +kernel
theorem dX6_fireRule_2 : decode cX6_fireRule 2 = .ok (.iload_n 1, 1) := by decide +kernel
theorem dX6_fireRule_3 : decode cX6_fireRule 3 = .ok (.invokevirtual 194, 3) := by decide +kernel
theorem dX6_fireRule_6 : decode cX6_fireRule 6 = .ok (.ifCond .ne 7, 3) := by decide +kernel
theorem dX6_fireRule_9 : decode cX6_fireRule 9 = .ok (.iconst 1, 1) := by decide +kernel
theorem dX6_fireRule_10 : decode cX6_fireRule 10 = .ok (.goto 16, 3) := by decide +kernel
theorem dX6_fireRule_13 : decode cX6_fireRule 13 = .ok (.aload_n 0, 1) := by decide +kernel
theorem dX6_fireRule_14 : decode cX6_fireRule 14 = .ok (.iload_n 1, 1) := by decide +kernel
theorem dX6_fireRule_15 : decode cX6_fireRule 15 = .ok (.invokevirtual 239, 3) := by decide +kernel
theorem dX6_fireRule_18 : decode cX6_fireRule 18 = .ok (.ifCond .eq 7, 3) := by decide +kernel
theorem dX6_fireRule_21 : decode cX6_fireRule 21 = .ok (.iconst 0, 1) := by decide +kernel
theorem dX6_fireRule_22 : decode cX6_fireRule 22 = .ok (.goto 4, 3) := by decide +kernel
theorem dX6_fireRule_25 : decode cX6_fireRule 25 = .ok (.iconst 2, 1) := by decide +kernel
theorem dX6_fireRule_26 : decode cX6_fireRule 26 = .ok (.putfield 117, 3) := by decide +kernel
theorem dX6_fireRule_29 : decode cX6_fireRule 29 = .ok (.aload_n 0, 1) := by decide +kernel
theorem dX6_fireRule_30 : decode cX6_fireRule 30 = .ok (.getfield 117, 3) := by decide +kernel
theorem dX6_fireRule_33 : decode cX6_fireRule 33 = .ok (.ifCond .le 5, 3) := by decide +kernel
theorem dX6_fireRule_36 : decode cX6_fireRule 36 = .ok (.iconst 0, 1) := by decide +kernel
theorem dX6_fireRule_37 : decode cX6_fireRule 37 = .ok (.ireturn, 1) := by decide +kernel
theorem dX6_fireRule_38 : decode cX6_fireRule 38 = .ok (.aload_n 0, 1) := by decide +kernel
theorem dX6_fireRule_39 : decode cX6_fireRule 39 = .ok (.iload_n 1, 1) := by decide +kernel
theorem dX6_fireRule_40 : decode cX6_fireRule 40 = .ok (.invokevirtual 266, 3) := by decide +kernel
theorem dX6_fireRule_43 : decode cX6_fireRule 43 = .ok (.aload_n 0, 1) := by decide +kernel
theorem dX6_fireRule_44 : decode cX6_fireRule 44 = .ok (.getfield 34, 3) := by decide +kernel
theorem dX6_fireRule_47 : decode cX6_fireRule 47 = .ok (.iload_n 1, 1) := by decide +kernel
theorem dX6_fireRule_48 : decode cX6_fireRule 48 = .ok (.iaload, 1) := by decide +kernel
theorem dX6_fireRule_49 : decode cX6_fireRule 49 = .ok (.ireturn, 1) := by decide +kernel
theorem dX6_run_0 : decode cX6_run 0 = .ok (.aload_n 0, 1) := by decide +kernel
theorem dX6_run_1 : decode cX6_run 1 = .ok (.iload_n 1, 1) := by decide +kernel
theorem dX6_run_2 : decode cX6_run 2 = .ok (.iconst 1, 1) := by decide +kernel
theorem dX6_run_3 : decode cX6_run 3 = .ok (.bipush 100, 2) := by decide +kernel
theorem dX6_run_5 : decode cX6_run 5 = .ok (.invokestatic 120, 3) := by decide +kernel
theorem dX6_run_8 : decode cX6_run 8 = .ok (.ifCond .eq 7, 3) := by decide +kernel
theorem dX6_run_11 : decode cX6_run 11 = .ok (.iconst 0, 1) := by decide +kernel
theorem dX6_run_12 : decode cX6_run 12 = .ok (.goto 4, 3) := by decide +kernel
theorem dX6_run_15 : decode cX6_run 15 = .ok (.iconst 1, 1) := by decide +kernel
theorem dX6_run_16 : decode cX6_run 16 = .ok (.putfield 117, 3) := by decide +kernel
theorem dX6_run_19 : decode cX6_run 19 = .ok (.iconst 0, 1) := by decide +kernel
theorem dX6_run_20 : decode cX6_run 20 = .ok (.istore_n 2, 1) := by decide +kernel
theorem dX6_run_21 : decode cX6_run 21 = .ok (.aload_n 0, 1) := by decide +kernel
theorem dX6_run_22 : decode cX6_run 22 = .ok (.getfield 117, 3) := by decide +kernel
theorem dX6_run_25 : decode cX6_run 25 = .ok (.ifCond .le 7, 3) := by decide +kernel
theorem dX6_run_28 : decode cX6_run 28 = .ok (.iconst (-1), 1) := by decide +kernel
theorem dX6_run_29 : decode cX6_run 29 = .ok (.goto 7, 3) := by decide +kernel
theorem dX6_run_32 : decode cX6_run 32 = .ok (.aload_n 0, 1) := by decide +kernel
theorem dX6_run_33 : decode cX6_run 33 = .ok (.invokevirtual 245, 3) := by decide +kernel
theorem dX6_run_36 : decode cX6_run 36 = .ok (.istore_n 3, 1) := by decide +kernel
theorem dX6_run_37 : decode cX6_run 37 = .ok (.iload_n 3, 1) := by decide +kernel
theorem dX6_run_38 : decode cX6_run 38 = .ok (.iconst (-1), 1) := by decide +kernel
theorem dX6_run_39 : decode cX6_run 39 = .ok (.if_icmp .eq 28, 3) := by decide +kernel
theorem dX6_run_42 : decode cX6_run 42 = .ok (.aload_n 0, 1) := by decide +kernel
theorem dX6_run_43 : decode cX6_run 43 = .ok (.iload_n 3, 1) := by decide +kernel
theorem dX6_run_44 : decode cX6_run 44 = .ok (.invokevirtual 266, 3) := by decide +kernel
theorem dX6_run_47 : decode cX6_run 47 = .ok (.iinc 2 1, 3) := by decide +kernel
theorem dX6_run_50 : decode cX6_run 50 = .ok (.iload_n 2, 1) := by decide +kernel
theorem dX6_run_51 : decode cX6_run 51 = .ok (.iload_n 1, 1) := by decide +kernel
theorem dX6_run_52 : decode cX6_run 52 = .ok (.if_icmp .ge 10, 3) := by decide +kernel
theorem dX6_run_55 : decode cX6_run 55 = .ok (.aload_n 0, 1) := by decide +kernel
theorem dX6_run_56 : decode cX6_run 56 = .ok (.invokevirtual 245, 3) := by decide +kernel
theorem dX6_run_59 : decode cX6_run 59 = .ok (.goto 4, 3) := by decide +kernel
theorem dX6_run_62 : decode cX6_run 62 = .ok (.iconst (-1), 1) := by decide +kernel
theorem dX6_run_63 : decode cX6_run 63 = .ok (.istore_n 3, 1) := by decide +kernel
theorem dX6_run_64 : decode cX6_run 64 = .ok (.goto (-27), 3) := by decide +kernel
theorem dX6_run_67 : decode cX6_run 67 = .ok (.iload_n 2, 1) := by decide +kernel
theorem dX6_run_68 : decode cX6_run 68 = .ok (.ireturn, 1) := by decide +kernel
theorem dX6_isStuck_0 : decode cX6_isStuck 0 = .ok (.aload_n 0, 1) := by decide +kernel
theorem dX6_isStuck_1 : decode cX6_isStuck 1 = .ok (.iconst 0, 1) := by decide +kernel
theorem dX6_isStuck_2 : decode cX6_isStuck 2 = .ok (.putfield 117, 3) := by decide +kernel
theorem dX6_isStuck_5 : decode cX6_isStuck 5 = .ok (.aload_n 0, 1) := by decide +kernel
theorem dX6_isStuck_6 : decode cX6_isStuck 6 = .ok (.invokevirtual 217, 3) := by decide +kernel
theorem dX6_isStuck_9 : decode cX6_isStuck 9 = .ok (.ifCond .eq 14, 3) := by decide +kernel
theorem dX6_isStuck_12 : decode cX6_isStuck 12 = .ok (.aload_n 0, 1) := by decide +kernel
theorem dX6_isStuck_13 : decode cX6_isStuck 13 = .ok (.invokevirtual 242, 3) := by decide +kernel
theorem dX6_isStuck_16 : decode cX6_isStuck 16 = .ok (.ifCond .ne 7, 3) := by decide +kernel
theorem dX6_isStuck_19 : decode cX6_isStuck 19 = .ok (.iconst 1, 1) := by decide +kernel
theorem dX6_isStuck_20 : decode cX6_isStuck 20 = .ok (.goto 4, 3) := by decide +kernel
theorem dX6_isStuck_23 : decode cX6_isStuck 23 = .ok (.iconst 0, 1) := by decide +kernel
theorem dX6_isStuck_24 : decode cX6_isStuck 24 = .ok (.ireturn, 1) := by decide +kernel
theorem dX6_ticketState_0 : decode cX6_ticketState 0 = .ok (.aload_n 0, 1) := by decide +kernel
theorem dX6_ticketState_1 : decode cX6_ticketState 1 = .ok (.aload_n 0, 1) := by decide +kernel
theorem dX6_ticketState_2 : decode cX6_ticketState 2 = .ok (.iload_n 1, 1) := by decide +kernel
theorem dX6_ticketState_3 : decode cX6_ticketState 3 = .ok (.invokevirtual 252, 3) := by decide +kernel
theorem dX6_ticketState_6 : decode cX6_ticketState 6 = .ok (.ifCond .eq 7, 3) := by decide +kernel
theorem dX6_ticketState_9 : decode cX6_ticketState 9 = .ok (.iconst 0, 1) := by decide +kernel
theorem dX6_ticketState_10 : decode cX6_ticketState 10 = .ok (.goto 4, 3) := by decide +kernel
theorem dX6_ticketState_13 : decode cX6_ticketState 13 = .ok (.iconst 1, 1) := by decide +kernel
theorem dX6_ticketState_14 : decode cX6_ticketState 14 = .ok (.putfield 117, 3) := by decide +kernel
theorem dX6_ticketState_17 : decode cX6_ticketState 17 = .ok (.aload_n 0, 1) := by decide +kernel
theorem dX6_ticketState_18 : decode cX6_ticketState 18 = .ok (.getfield 117, 3) := by decide +kernel
theorem dX6_ticketState_21 : decode cX6_ticketState 21 = .ok (.ifCond .le 7, 3) := by decide +kernel
theorem dX6_ticketState_24 : decode cX6_ticketState 24 = .ok (.iconst 0, 1) := by decide +kernel
theorem dX6_ticketState_25 : decode cX6_ticketState 25 = .ok (.goto 12, 3) := by decide +kernel
theorem dX6_ticketState_28 : decode cX6_ticketState 28 = .ok (.aload_n 0, 1) := by decide +kernel
theorem dX6_ticketState_29 : decode cX6_ticketState 29 = .ok (.getfield 53, 3) := by decide +kernel
theorem dX6_ticketState_32 : decode cX6_ticketState 32 = .ok (.iload_n 1, 1) := by decide +kernel
theorem dX6_ticketState_33 : decode cX6_ticketState 33 = .ok (.bipush 24, 2) := by decide +kernel
theorem dX6_ticketState_35 : decode cX6_ticketState 35 = .ok (.irem, 1) := by decide +kernel
theorem dX6_ticketState_36 : decode cX6_ticketState 36 = .ok (.iaload, 1) := by decide +kernel
theorem dX6_ticketState_37 : decode cX6_ticketState 37 = .ok (.ireturn, 1) := by decide +kernel
theorem dX6_replyOf_0 : decode cX6_replyOf 0 = .ok (.aload_n 0, 1) := by decide +kernel
theorem dX6_replyOf_1 : decode cX6_replyOf 1 = .ok (.aload_n 0, 1) := by decide +kernel
theorem dX6_replyOf_2 : decode cX6_replyOf 2 = .ok (.iload_n 1, 1) := by decide +kernel
theorem dX6_replyOf_3 : decode cX6_replyOf 3 = .ok (.invokevirtual 252, 3) := by decide +kernel
theorem dX6_replyOf_6 : decode cX6_replyOf 6 = .ok (.ifCond .ne 7, 3) := by decide +kernel
theorem dX6_replyOf_9 : decode cX6_replyOf 9 = .ok (.iconst 1, 1) := by decide +kernel
theorem dX6_replyOf_10 : decode cX6_replyOf 10 = .ok (.goto 21, 3) := by decide +kernel
theorem dX6_replyOf_13 : decode cX6_replyOf 13 = .ok (.aload_n 0, 1) := by decide +kernel
theorem dX6_replyOf_14 : decode cX6_replyOf 14 = .ok (.getfield 53, 3) := by decide +kernel
theorem dX6_replyOf_17 : decode cX6_replyOf 17 = .ok (.iload_n 1, 1) := by decide +kernel
theorem dX6_replyOf_18 : decode cX6_replyOf 18 = .ok (.bipush 24, 2) := by decide +kernel
theorem dX6_replyOf_20 : decode cX6_replyOf 20 = .ok (.irem, 1) := by decide +kernel
theorem dX6_replyOf_21 : decode cX6_replyOf 21 = .ok (.iaload, 1) := by decide +kernel
theorem dX6_replyOf_22 : decode cX6_replyOf 22 = .ok (.iconst 1, 1) := by decide +kernel
theorem dX6_replyOf_23 : decode cX6_replyOf 23 = .ok (.if_icmp .ne 7, 3) := by decide +kernel
theorem dX6_replyOf_26 : decode cX6_replyOf 26 = .ok (.iconst 0, 1) := by decide +kernel
theorem dX6_replyOf_27 : decode cX6_replyOf 27 = .ok (.goto 4, 3) := by decide +kernel
theorem dX6_replyOf_30 : decode cX6_replyOf 30 = .ok (.iconst 2, 1) := by decide +kernel
theorem dX6_replyOf_31 : decode cX6_replyOf 31 = .ok (.putfield 117, 3) := by decide +kernel
theorem dX6_replyOf_34 : decode cX6_replyOf 34 = .ok (.aload_n 0, 1) := by decide +kernel
theorem dX6_replyOf_35 : decode cX6_replyOf 35 = .ok (.getfield 117, 3) := by decide +kernel
theorem dX6_replyOf_38 : decode cX6_replyOf 38 = .ok (.ifCond .le 7, 3) := by decide +kernel
theorem dX6_replyOf_41 : decode cX6_replyOf 41 = .ok (.iconst 0, 1) := by decide +kernel
theorem dX6_replyOf_42 : decode cX6_replyOf 42 = .ok (.goto 12, 3) := by decide +kernel
theorem dX6_replyOf_45 : decode cX6_replyOf 45 = .ok (.aload_n 0, 1) := by decide +kernel
theorem dX6_replyOf_46 : decode cX6_replyOf 46 = .ok (.getfield 56, 3) := by decide +kernel
theorem dX6_replyOf_49 : decode cX6_replyOf 49 = .ok (.iload_n 1, 1) := by decide +kernel
theorem dX6_replyOf_50 : decode cX6_replyOf 50 = .ok (.bipush 24, 2) := by decide +kernel
theorem dX6_replyOf_52 : decode cX6_replyOf 52 = .ok (.irem, 1) := by decide +kernel
theorem dX6_replyOf_53 : decode cX6_replyOf 53 = .ok (.iaload, 1) := by decide +kernel
theorem dX6_replyOf_54 : decode cX6_replyOf 54 = .ok (.ireturn, 1) := by decide +kernel
theorem dX6_firings_0 : decode cX6_firings 0 = .ok (.aload_n 0, 1) := by decide +kernel
theorem dX6_firings_1 : decode cX6_firings 1 = .ok (.aload_n 0, 1) := by decide +kernel
theorem dX6_firings_2 : decode cX6_firings 2 = .ok (.iload_n 1, 1) := by decide +kernel
theorem dX6_firings_3 : decode cX6_firings 3 = .ok (.invokevirtual 194, 3) := by decide +kernel
theorem dX6_firings_6 : decode cX6_firings 6 = .ok (.ifCond .eq 7, 3) := by decide +kernel
theorem dX6_firings_9 : decode cX6_firings 9 = .ok (.iconst 0, 1) := by decide +kernel
theorem dX6_firings_10 : decode cX6_firings 10 = .ok (.goto 4, 3) := by decide +kernel
theorem dX6_firings_13 : decode cX6_firings 13 = .ok (.iconst 1, 1) := by decide +kernel
theorem dX6_firings_14 : decode cX6_firings 14 = .ok (.putfield 117, 3) := by decide +kernel
theorem dX6_firings_17 : decode cX6_firings 17 = .ok (.aload_n 0, 1) := by decide +kernel
theorem dX6_firings_18 : decode cX6_firings 18 = .ok (.getfield 117, 3) := by decide +kernel
theorem dX6_firings_21 : decode cX6_firings 21 = .ok (.ifCond .le 7, 3) := by decide +kernel
theorem dX6_firings_24 : decode cX6_firings 24 = .ok (.iconst 0, 1) := by decide +kernel
theorem dX6_firings_25 : decode cX6_firings 25 = .ok (.goto 9, 3) := by decide +kernel
theorem dX6_firings_28 : decode cX6_firings 28 = .ok (.aload_n 0, 1) := by decide +kernel
theorem dX6_firings_29 : decode cX6_firings 29 = .ok (.getfield 34, 3) := by decide +kernel
theorem dX6_firings_32 : decode cX6_firings 32 = .ok (.iload_n 1, 1) := by decide +kernel
theorem dX6_firings_33 : decode cX6_firings 33 = .ok (.iaload, 1) := by decide +kernel
theorem dX6_firings_34 : decode cX6_firings 34 = .ok (.ireturn, 1) := by decide +kernel
theorem dX6_consumed_0 : decode cX6_consumed 0 = .ok (.aload_n 0, 1) := by decide +kernel
theorem dX6_consumed_1 : decode cX6_consumed 1 = .ok (.iload_n 1, 1) := by decide +kernel
theorem dX6_consumed_2 : decode cX6_consumed 2 = .ok (.invokestatic 207, 3) := by decide +kernel
theorem dX6_consumed_5 : decode cX6_consumed 5 = .ok (.ifCond .eq 7, 3) := by decide +kernel
theorem dX6_consumed_8 : decode cX6_consumed 8 = .ok (.iconst 0, 1) := by decide +kernel
theorem dX6_consumed_9 : decode cX6_consumed 9 = .ok (.goto 4, 3) := by decide +kernel
theorem dX6_consumed_12 : decode cX6_consumed 12 = .ok (.iconst 1, 1) := by decide +kernel
theorem dX6_consumed_13 : decode cX6_consumed 13 = .ok (.putfield 117, 3) := by decide +kernel
theorem dX6_consumed_16 : decode cX6_consumed 16 = .ok (.aload_n 0, 1) := by decide +kernel
theorem dX6_consumed_17 : decode cX6_consumed 17 = .ok (.getfield 117, 3) := by decide +kernel
theorem dX6_consumed_20 : decode cX6_consumed 20 = .ok (.ifCond .le 7, 3) := by decide +kernel
theorem dX6_consumed_23 : decode cX6_consumed 23 = .ok (.iconst 0, 1) := by decide +kernel
theorem dX6_consumed_24 : decode cX6_consumed 24 = .ok (.goto 9, 3) := by decide +kernel
theorem dX6_consumed_27 : decode cX6_consumed 27 = .ok (.aload_n 0, 1) := by decide +kernel
theorem dX6_consumed_28 : decode cX6_consumed 28 = .ok (.getfield 59, 3) := by decide +kernel
theorem dX6_consumed_31 : decode cX6_consumed 31 = .ok (.iload_n 1, 1) := by decide +kernel
theorem dX6_consumed_32 : decode cX6_consumed 32 = .ok (.iaload, 1) := by decide +kernel
theorem dX6_consumed_33 : decode cX6_consumed 33 = .ok (.ireturn, 1) := by decide +kernel
theorem dX6_meanWait_0 : decode cX6_meanWait 0 = .ok (.aload_n 0, 1) := by decide +kernel
theorem dX6_meanWait_1 : decode cX6_meanWait 1 = .ok (.iload_n 1, 1) := by decide +kernel
theorem dX6_meanWait_2 : decode cX6_meanWait 2 = .ok (.invokestatic 207, 3) := by decide +kernel
theorem dX6_meanWait_5 : decode cX6_meanWait 5 = .ok (.ifCond .eq 7, 3) := by decide +kernel
theorem dX6_meanWait_8 : decode cX6_meanWait 8 = .ok (.iconst 0, 1) := by decide +kernel
theorem dX6_meanWait_9 : decode cX6_meanWait 9 = .ok (.goto 4, 3) := by decide +kernel
theorem dX6_meanWait_12 : decode cX6_meanWait 12 = .ok (.iconst 1, 1) := by decide +kernel
theorem dX6_meanWait_13 : decode cX6_meanWait 13 = .ok (.putfield 117, 3) := by decide +kernel
theorem dX6_meanWait_16 : decode cX6_meanWait 16 = .ok (.aload_n 0, 1) := by decide +kernel
theorem dX6_meanWait_17 : decode cX6_meanWait 17 = .ok (.getfield 117, 3) := by decide +kernel
theorem dX6_meanWait_20 : decode cX6_meanWait 20 = .ok (.ifCond .gt 12, 3) := by decide +kernel
theorem dX6_meanWait_23 : decode cX6_meanWait 23 = .ok (.aload_n 0, 1) := by decide +kernel
theorem dX6_meanWait_24 : decode cX6_meanWait 24 = .ok (.getfield 59, 3) := by decide +kernel
theorem dX6_meanWait_27 : decode cX6_meanWait 27 = .ok (.iload_n 1, 1) := by decide +kernel
theorem dX6_meanWait_28 : decode cX6_meanWait 28 = .ok (.iaload, 1) := by decide +kernel
theorem dX6_meanWait_29 : decode cX6_meanWait 29 = .ok (.ifCond .ne 7, 3) := by decide +kernel
theorem dX6_meanWait_32 : decode cX6_meanWait 32 = .ok (.dconst 0, 1) := by decide +kernel
theorem dX6_meanWait_33 : decode cX6_meanWait 33 = .ok (.goto 18, 3) := by decide +kernel
theorem dX6_meanWait_36 : decode cX6_meanWait 36 = .ok (.aload_n 0, 1) := by decide +kernel
theorem dX6_meanWait_37 : decode cX6_meanWait 37 = .ok (.getfield 62, 3) := by decide +kernel
theorem dX6_meanWait_40 : decode cX6_meanWait 40 = .ok (.iload_n 1, 1) := by decide +kernel
theorem dX6_meanWait_41 : decode cX6_meanWait 41 = .ok (.laload, 1) := by decide +kernel
theorem dX6_meanWait_42 : decode cX6_meanWait 42 = .ok (.l2d, 1) := by decide +kernel
theorem dX6_meanWait_43 : decode cX6_meanWait 43 = .ok (.aload_n 0, 1) := by decide +kernel
theorem dX6_meanWait_44 : decode cX6_meanWait 44 = .ok (.getfield 59, 3) := by decide +kernel
theorem dX6_meanWait_47 : decode cX6_meanWait 47 = .ok (.iload_n 1, 1) := by decide +kernel
theorem dX6_meanWait_48 : decode cX6_meanWait 48 = .ok (.iaload, 1) := by decide +kernel
theorem dX6_meanWait_49 : decode cX6_meanWait 49 = .ok (.i2d, 1) := by decide +kernel
theorem dX6_meanWait_50 : decode cX6_meanWait 50 = .ok (.ddiv, 1) := by decide +kernel
theorem dX6_meanWait_51 : decode cX6_meanWait 51 = .ok (.dreturn, 1) := by decide +kernel
theorem dX6_shareOf_0 : decode cX6_shareOf 0 = .ok (.aload_n 0, 1) := by decide +kernel
theorem dX6_shareOf_1 : decode cX6_shareOf 1 = .ok (.aload_n 0, 1) := by decide +kernel
theorem dX6_shareOf_2 : decode cX6_shareOf 2 = .ok (.iload_n 1, 1) := by decide +kernel
theorem dX6_shareOf_3 : decode cX6_shareOf 3 = .ok (.invokevirtual 194, 3) := by decide +kernel
theorem dX6_shareOf_6 : decode cX6_shareOf 6 = .ok (.ifCond .eq 7, 3) := by decide +kernel
theorem dX6_shareOf_9 : decode cX6_shareOf 9 = .ok (.iconst 0, 1) := by decide +kernel
theorem dX6_shareOf_10 : decode cX6_shareOf 10 = .ok (.goto 4, 3) := by decide +kernel
theorem dX6_shareOf_13 : decode cX6_shareOf 13 = .ok (.iconst 1, 1) := by decide +kernel
theorem dX6_shareOf_14 : decode cX6_shareOf 14 = .ok (.putfield 117, 3) := by decide +kernel
theorem dX6_shareOf_17 : decode cX6_shareOf 17 = .ok (.iconst 0, 1) := by decide +kernel
theorem dX6_shareOf_18 : decode cX6_shareOf 18 = .ok (.istore_n 2, 1) := by decide +kernel
theorem dX6_shareOf_19 : decode cX6_shareOf 19 = .ok (.iconst 0, 1) := by decide +kernel
theorem dX6_shareOf_20 : decode cX6_shareOf 20 = .ok (.istore_n 3, 1) := by decide +kernel
theorem dX6_shareOf_21 : decode cX6_shareOf 21 = .ok (.iload_n 3, 1) := by decide +kernel
theorem dX6_shareOf_22 : decode cX6_shareOf 22 = .ok (.aload_n 0, 1) := by decide +kernel
theorem dX6_shareOf_23 : decode cX6_shareOf 23 = .ok (.getfield 188, 3) := by decide +kernel
theorem dX6_shareOf_26 : decode cX6_shareOf 26 = .ok (.if_icmp .ge 18, 3) := by decide +kernel
theorem dX6_shareOf_29 : decode cX6_shareOf 29 = .ok (.iload_n 2, 1) := by decide +kernel
theorem dX6_shareOf_30 : decode cX6_shareOf 30 = .ok (.aload_n 0, 1) := by decide +kernel
theorem dX6_shareOf_31 : decode cX6_shareOf 31 = .ok (.getfield 34, 3) := by decide +kernel
theorem dX6_shareOf_34 : decode cX6_shareOf 34 = .ok (.iload_n 3, 1) := by decide +kernel
theorem dX6_shareOf_35 : decode cX6_shareOf 35 = .ok (.iaload, 1) := by decide +kernel
theorem dX6_shareOf_36 : decode cX6_shareOf 36 = .ok (.iadd, 1) := by decide +kernel
theorem dX6_shareOf_37 : decode cX6_shareOf 37 = .ok (.istore_n 2, 1) := by decide +kernel
theorem dX6_shareOf_38 : decode cX6_shareOf 38 = .ok (.iinc 3 1, 3) := by decide +kernel
theorem dX6_shareOf_41 : decode cX6_shareOf 41 = .ok (.goto (-20), 3) := by decide +kernel
theorem dX6_shareOf_44 : decode cX6_shareOf 44 = .ok (.aload_n 0, 1) := by decide +kernel
theorem dX6_shareOf_45 : decode cX6_shareOf 45 = .ok (.getfield 117, 3) := by decide +kernel
theorem dX6_shareOf_48 : decode cX6_shareOf 48 = .ok (.ifCond .gt 7, 3) := by decide +kernel
theorem dX6_shareOf_51 : decode cX6_shareOf 51 = .ok (.iload_n 2, 1) := by decide +kernel
theorem dX6_shareOf_52 : decode cX6_shareOf 52 = .ok (.ifCond .ne 7, 3) := by decide +kernel
theorem dX6_shareOf_55 : decode cX6_shareOf 55 = .ok (.fconst 0, 1) := by decide +kernel
theorem dX6_shareOf_56 : decode cX6_shareOf 56 = .ok (.goto 13, 3) := by decide +kernel
theorem dX6_shareOf_59 : decode cX6_shareOf 59 = .ok (.aload_n 0, 1) := by decide +kernel
theorem dX6_shareOf_60 : decode cX6_shareOf 60 = .ok (.getfield 34, 3) := by decide +kernel
theorem dX6_shareOf_63 : decode cX6_shareOf 63 = .ok (.iload_n 1, 1) := by decide +kernel
theorem dX6_shareOf_64 : decode cX6_shareOf 64 = .ok (.iaload, 1) := by decide +kernel
theorem dX6_shareOf_65 : decode cX6_shareOf 65 = .ok (.i2f, 1) := by decide +kernel
theorem dX6_shareOf_66 : decode cX6_shareOf 66 = .ok (.iload_n 2, 1) := by decide +kernel
theorem dX6_shareOf_67 : decode cX6_shareOf 67 = .ok (.i2f, 1) := by decide +kernel
theorem dX6_shareOf_68 : decode cX6_shareOf 68 = .ok (.fdiv, 1) := by decide +kernel
theorem dX6_shareOf_69 : decode cX6_shareOf 69 = .ok (.freturn, 1) := by decide +kernel
theorem dX6_clock_0 : decode cX6_clock 0 = .ok (.aload_n 0, 1) := by decide +kernel
theorem dX6_clock_1 : decode cX6_clock 1 = .ok (.iconst 0, 1) := by decide +kernel
theorem dX6_clock_2 : decode cX6_clock 2 = .ok (.putfield 117, 3) := by decide +kernel
theorem dX6_clock_5 : decode cX6_clock 5 = .ok (.aload_n 0, 1) := by decide +kernel
theorem dX6_clock_6 : decode cX6_clock 6 = .ok (.getfield 204, 3) := by decide +kernel
theorem dX6_clock_9 : decode cX6_clock 9 = .ok (.ireturn, 1) := by decide +kernel
theorem dX6_copy_0 : decode cX6_copy 0 = .ok (.iconst 0, 1) := by decide +kernel
theorem dX6_copy_1 : decode cX6_copy 1 = .ok (.istore_n 2, 1) := by decide +kernel
theorem dX6_copy_2 : decode cX6_copy 2 = .ok (.iload_n 2, 1) := by decide +kernel
theorem dX6_copy_3 : decode cX6_copy 3 = .ok (.aload_n 0, 1) := by decide +kernel
theorem dX6_copy_4 : decode cX6_copy 4 = .ok (.arraylength, 1) := by decide +kernel
theorem dX6_copy_5 : decode cX6_copy 5 = .ok (.if_icmp .ge 15, 3) := by decide +kernel
theorem dX6_copy_8 : decode cX6_copy 8 = .ok (.aload_n 1, 1) := by decide +kernel
theorem dX6_copy_9 : decode cX6_copy 9 = .ok (.iload_n 2, 1) := by decide +kernel
theorem dX6_copy_10 : decode cX6_copy 10 = .ok (.aload_n 0, 1) := by decide +kernel
theorem dX6_copy_11 : decode cX6_copy 11 = .ok (.iload_n 2, 1) := by decide +kernel
theorem dX6_copy_12 : decode cX6_copy 12 = .ok (.iaload, 1) := by decide +kernel
theorem dX6_copy_13 : decode cX6_copy 13 = .ok (.iastore, 1) := by decide +kernel
theorem dX6_copy_14 : decode cX6_copy 14 = .ok (.iinc 2 1, 3) := by decide +kernel
theorem dX6_copy_17 : decode cX6_copy 17 = .ok (.goto (-15), 3) := by decide +kernel
theorem dX6_copy_20 : decode cX6_copy 20 = .ok (.return_, 1) := by decide +kernel
theorem dX6_copyLongs_0 : decode cX6_copyLongs 0 = .ok (.iconst 0, 1) := by decide +kernel
theorem dX6_copyLongs_1 : decode cX6_copyLongs 1 = .ok (.istore_n 2, 1) := by decide +kernel
theorem dX6_copyLongs_2 : decode cX6_copyLongs 2 = .ok (.iload_n 2, 1) := by decide +kernel
theorem dX6_copyLongs_3 : decode cX6_copyLongs 3 = .ok (.aload_n 0, 1) := by decide +kernel
theorem dX6_copyLongs_4 : decode cX6_copyLongs 4 = .ok (.arraylength, 1) := by decide +kernel
theorem dX6_copyLongs_5 : decode cX6_copyLongs 5 = .ok (.if_icmp .ge 15, 3) := by decide +kernel
theorem dX6_copyLongs_8 : decode cX6_copyLongs 8 = .ok (.aload_n 1, 1) := by decide +kernel
theorem dX6_copyLongs_9 : decode cX6_copyLongs 9 = .ok (.iload_n 2, 1) := by decide +kernel
theorem dX6_copyLongs_10 : decode cX6_copyLongs 10 = .ok (.aload_n 0, 1) := by decide +kernel
theorem dX6_copyLongs_11 : decode cX6_copyLongs 11 = .ok (.iload_n 2, 1) := by decide +kernel
theorem dX6_copyLongs_12 : decode cX6_copyLongs 12 = .ok (.laload, 1) := by decide +kernel
theorem dX6_copyLongs_13 : decode cX6_copyLongs 13 = .ok (.lastore, 1) := by decide +kernel
theorem dX6_copyLongs_14 : decode cX6_copyLongs 14 = .ok (.iinc 2 1, 3) := by decide +kernel
theorem dX6_copyLongs_17 : decode cX6_copyLongs 17 = .ok (.goto (-15), 3) := by decide +kernel
theorem dX6_copyLongs_20 : decode cX6_copyLongs 20 = .ok (.return_, 1) := by decide +kernel
theorem dX6_messages_0 : decode cX6_messages 0 = .ok (.iconst 0, 1) := by decide +kernel
theorem dX6_messages_1 : decode cX6_messages 1 = .ok (.istore_n 1, 1) := by decide +kernel
theorem dX6_messages_2 : decode cX6_messages 2 = .ok (.iconst 0, 1) := by decide +kernel
theorem dX6_messages_3 : decode cX6_messages 3 = .ok (.istore_n 2, 1) := by decide +kernel
theorem dX6_messages_4 : decode cX6_messages 4 = .ok (.iload_n 2, 1) := by decide +kernel
theorem dX6_messages_5 : decode cX6_messages 5 = .ok (.bipush 8, 2) := by decide +kernel
theorem dX6_messages_7 : decode cX6_messages 7 = .ok (.if_icmp .ge 18, 3) := by decide +kernel
theorem dX6_messages_10 : decode cX6_messages 10 = .ok (.iload_n 1, 1) := by decide +kernel
theorem dX6_messages_11 : decode cX6_messages 11 = .ok (.aload_n 0, 1) := by decide +kernel
theorem dX6_messages_12 : decode cX6_messages 12 = .ok (.getfield 41, 3) := by decide +kernel
theorem dX6_messages_15 : decode cX6_messages 15 = .ok (.iload_n 2, 1) := by decide +kernel
theorem dX6_messages_16 : decode cX6_messages 16 = .ok (.iaload, 1) := by decide +kernel
theorem dX6_messages_17 : decode cX6_messages 17 = .ok (.iadd, 1) := by decide +kernel
theorem dX6_messages_18 : decode cX6_messages 18 = .ok (.istore_n 1, 1) := by decide +kernel
theorem dX6_messages_19 : decode cX6_messages 19 = .ok (.iinc 2 1, 3) := by decide +kernel
theorem dX6_messages_22 : decode cX6_messages 22 = .ok (.goto (-18), 3) := by decide +kernel
theorem dX6_messages_25 : decode cX6_messages 25 = .ok (.iload_n 1, 1) := by decide +kernel
theorem dX6_messages_26 : decode cX6_messages 26 = .ok (.ireturn, 1) := by decide +kernel
theorem dX6_save_0 : decode cX6_save 0 = .ok (.aload_n 0, 1) := by decide +kernel
theorem dX6_save_1 : decode cX6_save 1 = .ok (.iconst 0, 1) := by decide +kernel
theorem dX6_save_2 : decode cX6_save 2 = .ok (.putfield 117, 3) := by decide +kernel
theorem dX6_save_5 : decode cX6_save 5 = .ok (.aload_n 0, 1) := by decide +kernel
theorem dX6_save_6 : decode cX6_save 6 = .ok (.iconst 1, 1) := by decide +kernel
theorem dX6_save_7 : decode cX6_save 7 = .ok (.putfield 191, 3) := by decide +kernel
theorem dX6_save_10 : decode cX6_save 10 = .ok (.aload_n 0, 1) := by decide +kernel
theorem dX6_save_11 : decode cX6_save 11 = .ok (.aload_n 0, 1) := by decide +kernel
theorem dX6_save_12 : decode cX6_save 12 = .ok (.getfield 204, 3) := by decide +kernel
theorem dX6_save_15 : decode cX6_save 15 = .ok (.putfield 269, 3) := by decide +kernel
theorem dX6_save_18 : decode cX6_save 18 = .ok (.aload_n 0, 1) := by decide +kernel
theorem dX6_save_19 : decode cX6_save 19 = .ok (.aload_n 0, 1) := by decide +kernel
theorem dX6_save_20 : decode cX6_save 20 = .ok (.getfield 210, 3) := by decide +kernel
theorem dX6_save_23 : decode cX6_save 23 = .ok (.putfield 272, 3) := by decide +kernel
theorem dX6_save_26 : decode cX6_save 26 = .ok (.aload_n 0, 1) := by decide +kernel
theorem dX6_save_27 : decode cX6_save 27 = .ok (.aload_n 0, 1) := by decide +kernel
theorem dX6_save_28 : decode cX6_save 28 = .ok (.getfield 37, 3) := by decide +kernel
theorem dX6_save_31 : decode cX6_save 31 = .ok (.putfield 275, 3) := by decide +kernel
theorem dX6_save_34 : decode cX6_save 34 = .ok (.aload_n 0, 1) := by decide +kernel
theorem dX6_save_35 : decode cX6_save 35 = .ok (.getfield 41, 3) := by decide +kernel
theorem dX6_save_38 : decode cX6_save 38 = .ok (.aload_n 0, 1) := by decide +kernel
theorem dX6_save_39 : decode cX6_save 39 = .ok (.getfield 90, 3) := by decide +kernel
theorem dX6_save_42 : decode cX6_save 42 = .ok (.invokestatic 278, 3) := by decide +kernel
theorem dX6_save_45 : decode cX6_save 45 = .ok (.aload_n 0, 1) := by decide +kernel
theorem dX6_save_46 : decode cX6_save 46 = .ok (.getfield 44, 3) := by decide +kernel
theorem dX6_save_49 : decode cX6_save 49 = .ok (.aload_n 0, 1) := by decide +kernel
theorem dX6_save_50 : decode cX6_save 50 = .ok (.getfield 93, 3) := by decide +kernel
theorem dX6_save_53 : decode cX6_save 53 = .ok (.invokestatic 278, 3) := by decide +kernel
theorem dX6_save_56 : decode cX6_save 56 = .ok (.aload_n 0, 1) := by decide +kernel
theorem dX6_save_57 : decode cX6_save 57 = .ok (.getfield 47, 3) := by decide +kernel
theorem dX6_save_60 : decode cX6_save 60 = .ok (.aload_n 0, 1) := by decide +kernel
theorem dX6_save_61 : decode cX6_save 61 = .ok (.getfield 96, 3) := by decide +kernel
theorem dX6_save_64 : decode cX6_save 64 = .ok (.invokestatic 278, 3) := by decide +kernel
theorem dX6_save_67 : decode cX6_save 67 = .ok (.aload_n 0, 1) := by decide +kernel
theorem dX6_save_68 : decode cX6_save 68 = .ok (.getfield 50, 3) := by decide +kernel
theorem dX6_save_71 : decode cX6_save 71 = .ok (.aload_n 0, 1) := by decide +kernel
theorem dX6_save_72 : decode cX6_save 72 = .ok (.getfield 99, 3) := by decide +kernel
theorem dX6_save_75 : decode cX6_save 75 = .ok (.invokestatic 278, 3) := by decide +kernel
theorem dX6_save_78 : decode cX6_save 78 = .ok (.aload_n 0, 1) := by decide +kernel
theorem dX6_save_79 : decode cX6_save 79 = .ok (.getfield 53, 3) := by decide +kernel
theorem dX6_save_82 : decode cX6_save 82 = .ok (.aload_n 0, 1) := by decide +kernel
theorem dX6_save_83 : decode cX6_save 83 = .ok (.getfield 102, 3) := by decide +kernel
theorem dX6_save_86 : decode cX6_save 86 = .ok (.invokestatic 278, 3) := by decide +kernel
theorem dX6_save_89 : decode cX6_save 89 = .ok (.aload_n 0, 1) := by decide +kernel
theorem dX6_save_90 : decode cX6_save 90 = .ok (.getfield 56, 3) := by decide +kernel
theorem dX6_save_93 : decode cX6_save 93 = .ok (.aload_n 0, 1) := by decide +kernel
theorem dX6_save_94 : decode cX6_save 94 = .ok (.getfield 105, 3) := by decide +kernel
theorem dX6_save_97 : decode cX6_save 97 = .ok (.invokestatic 278, 3) := by decide +kernel
theorem dX6_save_100 : decode cX6_save 100 = .ok (.aload_n 0, 1) := by decide +kernel
theorem dX6_save_101 : decode cX6_save 101 = .ok (.getfield 34, 3) := by decide +kernel
theorem dX6_save_104 : decode cX6_save 104 = .ok (.aload_n 0, 1) := by decide +kernel
theorem dX6_save_105 : decode cX6_save 105 = .ok (.getfield 108, 3) := by decide +kernel
theorem dX6_save_108 : decode cX6_save 108 = .ok (.invokestatic 278, 3) := by decide +kernel
theorem dX6_save_111 : decode cX6_save 111 = .ok (.aload_n 0, 1) := by decide +kernel
theorem dX6_save_112 : decode cX6_save 112 = .ok (.getfield 59, 3) := by decide +kernel
theorem dX6_save_115 : decode cX6_save 115 = .ok (.aload_n 0, 1) := by decide +kernel
theorem dX6_save_116 : decode cX6_save 116 = .ok (.getfield 111, 3) := by decide +kernel
theorem dX6_save_119 : decode cX6_save 119 = .ok (.invokestatic 278, 3) := by decide +kernel
theorem dX6_save_122 : decode cX6_save 122 = .ok (.aload_n 0, 1) := by decide +kernel
theorem dX6_save_123 : decode cX6_save 123 = .ok (.getfield 62, 3) := by decide +kernel
theorem dX6_save_126 : decode cX6_save 126 = .ok (.aload_n 0, 1) := by decide +kernel
theorem dX6_save_127 : decode cX6_save 127 = .ok (.getfield 114, 3) := by decide +kernel
theorem dX6_save_130 : decode cX6_save 130 = .ok (.invokestatic 282, 3) := by decide +kernel
theorem dX6_save_133 : decode cX6_save 133 = .ok (.aload_n 0, 1) := by decide +kernel
theorem dX6_save_134 : decode cX6_save 134 = .ok (.invokevirtual 286, 3) := by decide +kernel
theorem dX6_save_137 : decode cX6_save 137 = .ok (.ireturn, 1) := by decide +kernel
theorem dX6_restore_0 : decode cX6_restore 0 = .ok (.aload_n 0, 1) := by decide +kernel
theorem dX6_restore_1 : decode cX6_restore 1 = .ok (.aload_n 0, 1) := by decide +kernel
theorem dX6_restore_2 : decode cX6_restore 2 = .ok (.getfield 191, 3) := by decide +kernel
theorem dX6_restore_5 : decode cX6_restore 5 = .ok (.ifCond .eq 7, 3) := by decide +kernel
theorem dX6_restore_8 : decode cX6_restore 8 = .ok (.iconst 0, 1) := by decide +kernel
theorem dX6_restore_9 : decode cX6_restore 9 = .ok (.goto 4, 3) := by decide +kernel
theorem dX6_restore_12 : decode cX6_restore 12 = .ok (.iconst 1, 1) := by decide +kernel
theorem dX6_restore_13 : decode cX6_restore 13 = .ok (.putfield 117, 3) := by decide +kernel
theorem dX6_restore_16 : decode cX6_restore 16 = .ok (.aload_n 0, 1) := by decide +kernel
theorem dX6_restore_17 : decode cX6_restore 17 = .ok (.getfield 117, 3) := by decide +kernel
theorem dX6_restore_20 : decode cX6_restore 20 = .ok (.ifCond .le 5, 3) := by decide +kernel
theorem dX6_restore_23 : decode cX6_restore 23 = .ok (.iconst 0, 1) := by decide +kernel
theorem dX6_restore_24 : decode cX6_restore 24 = .ok (.ireturn, 1) := by decide +kernel
theorem dX6_restore_25 : decode cX6_restore 25 = .ok (.aload_n 0, 1) := by decide +kernel
theorem dX6_restore_26 : decode cX6_restore 26 = .ok (.aload_n 0, 1) := by decide +kernel
theorem dX6_restore_27 : decode cX6_restore 27 = .ok (.getfield 269, 3) := by decide +kernel
theorem dX6_restore_30 : decode cX6_restore 30 = .ok (.putfield 204, 3) := by decide +kernel
theorem dX6_restore_33 : decode cX6_restore 33 = .ok (.aload_n 0, 1) := by decide +kernel
theorem dX6_restore_34 : decode cX6_restore 34 = .ok (.aload_n 0, 1) := by decide +kernel
theorem dX6_restore_35 : decode cX6_restore 35 = .ok (.getfield 272, 3) := by decide +kernel
theorem dX6_restore_38 : decode cX6_restore 38 = .ok (.putfield 210, 3) := by decide +kernel
theorem dX6_restore_41 : decode cX6_restore 41 = .ok (.aload_n 0, 1) := by decide +kernel
theorem dX6_restore_42 : decode cX6_restore 42 = .ok (.aload_n 0, 1) := by decide +kernel
theorem dX6_restore_43 : decode cX6_restore 43 = .ok (.getfield 275, 3) := by decide +kernel
theorem dX6_restore_46 : decode cX6_restore 46 = .ok (.putfield 37, 3) := by decide +kernel
theorem dX6_restore_49 : decode cX6_restore 49 = .ok (.aload_n 0, 1) := by decide +kernel
theorem dX6_restore_50 : decode cX6_restore 50 = .ok (.getfield 90, 3) := by decide +kernel
theorem dX6_restore_53 : decode cX6_restore 53 = .ok (.aload_n 0, 1) := by decide +kernel
theorem dX6_restore_54 : decode cX6_restore 54 = .ok (.getfield 41, 3) := by decide +kernel
theorem dX6_restore_57 : decode cX6_restore 57 = .ok (.invokestatic 278, 3) := by decide +kernel
theorem dX6_restore_60 : decode cX6_restore 60 = .ok (.aload_n 0, 1) := by decide +kernel
theorem dX6_restore_61 : decode cX6_restore 61 = .ok (.getfield 93, 3) := by decide +kernel
theorem dX6_restore_64 : decode cX6_restore 64 = .ok (.aload_n 0, 1) := by decide +kernel
theorem dX6_restore_65 : decode cX6_restore 65 = .ok (.getfield 44, 3) := by decide +kernel
theorem dX6_restore_68 : decode cX6_restore 68 = .ok (.invokestatic 278, 3) := by decide +kernel
theorem dX6_restore_71 : decode cX6_restore 71 = .ok (.aload_n 0, 1) := by decide +kernel
theorem dX6_restore_72 : decode cX6_restore 72 = .ok (.getfield 96, 3) := by decide +kernel
theorem dX6_restore_75 : decode cX6_restore 75 = .ok (.aload_n 0, 1) := by decide +kernel
theorem dX6_restore_76 : decode cX6_restore 76 = .ok (.getfield 47, 3) := by decide +kernel
theorem dX6_restore_79 : decode cX6_restore 79 = .ok (.invokestatic 278, 3) := by decide +kernel
theorem dX6_restore_82 : decode cX6_restore 82 = .ok (.aload_n 0, 1) := by decide +kernel
theorem dX6_restore_83 : decode cX6_restore 83 = .ok (.getfield 99, 3) := by decide +kernel
theorem dX6_restore_86 : decode cX6_restore 86 = .ok (.aload_n 0, 1) := by decide +kernel
theorem dX6_restore_87 : decode cX6_restore 87 = .ok (.getfield 50, 3) := by decide +kernel
theorem dX6_restore_90 : decode cX6_restore 90 = .ok (.invokestatic 278, 3) := by decide +kernel
theorem dX6_restore_93 : decode cX6_restore 93 = .ok (.aload_n 0, 1) := by decide +kernel
theorem dX6_restore_94 : decode cX6_restore 94 = .ok (.getfield 102, 3) := by decide +kernel
theorem dX6_restore_97 : decode cX6_restore 97 = .ok (.aload_n 0, 1) := by decide +kernel
theorem dX6_restore_98 : decode cX6_restore 98 = .ok (.getfield 53, 3) := by decide +kernel
theorem dX6_restore_101 : decode cX6_restore 101 = .ok (.invokestatic 278, 3) := by decide +kernel
theorem dX6_restore_104 : decode cX6_restore 104 = .ok (.aload_n 0, 1) := by decide +kernel
theorem dX6_restore_105 : decode cX6_restore 105 = .ok (.getfield 105, 3) := by decide +kernel
theorem dX6_restore_108 : decode cX6_restore 108 = .ok (.aload_n 0, 1) := by decide +kernel
theorem dX6_restore_109 : decode cX6_restore 109 = .ok (.getfield 56, 3) := by decide +kernel
theorem dX6_restore_112 : decode cX6_restore 112 = .ok (.invokestatic 278, 3) := by decide +kernel
theorem dX6_restore_115 : decode cX6_restore 115 = .ok (.aload_n 0, 1) := by decide +kernel
theorem dX6_restore_116 : decode cX6_restore 116 = .ok (.getfield 108, 3) := by decide +kernel
theorem dX6_restore_119 : decode cX6_restore 119 = .ok (.aload_n 0, 1) := by decide +kernel
theorem dX6_restore_120 : decode cX6_restore 120 = .ok (.getfield 34, 3) := by decide +kernel
theorem dX6_restore_123 : decode cX6_restore 123 = .ok (.invokestatic 278, 3) := by decide +kernel
theorem dX6_restore_126 : decode cX6_restore 126 = .ok (.aload_n 0, 1) := by decide +kernel
theorem dX6_restore_127 : decode cX6_restore 127 = .ok (.getfield 111, 3) := by decide +kernel
theorem dX6_restore_130 : decode cX6_restore 130 = .ok (.aload_n 0, 1) := by decide +kernel
theorem dX6_restore_131 : decode cX6_restore 131 = .ok (.getfield 59, 3) := by decide +kernel
theorem dX6_restore_134 : decode cX6_restore 134 = .ok (.invokestatic 278, 3) := by decide +kernel
theorem dX6_restore_137 : decode cX6_restore 137 = .ok (.aload_n 0, 1) := by decide +kernel
theorem dX6_restore_138 : decode cX6_restore 138 = .ok (.getfield 114, 3) := by decide +kernel
theorem dX6_restore_141 : decode cX6_restore 141 = .ok (.aload_n 0, 1) := by decide +kernel
theorem dX6_restore_142 : decode cX6_restore 142 = .ok (.getfield 62, 3) := by decide +kernel
theorem dX6_restore_145 : decode cX6_restore 145 = .ok (.invokestatic 282, 3) := by decide +kernel
theorem dX6_restore_148 : decode cX6_restore 148 = .ok (.aload_n 0, 1) := by decide +kernel
theorem dX6_restore_149 : decode cX6_restore 149 = .ok (.invokevirtual 286, 3) := by decide +kernel
theorem dX6_restore_152 : decode cX6_restore 152 = .ok (.ireturn, 1) := by decide +kernel
theorem dX6_mix_0 : decode cX6_mix 0 = .ok (.aload_n 0, 1) := by decide +kernel
theorem dX6_mix_1 : decode cX6_mix 1 = .ok (.ldc2_w 289, 3) := by decide +kernel
theorem dX6_mix_4 : decode cX6_mix 4 = .ok (.aload_n 0, 1) := by decide +kernel
