theorem dX11_readRule_194 : decode cX11_readRule 194 = .ok (.iload_n 1, 1) := by decide +kernel
theorem dX11_readRule_195 : decode cX11_readRule 195 = .ok (.iastore, 1) := by decide +kernel
theorem dX11_readRule_196 : decode cX11_readRule 196 = .ok (.aload_n 0, 1) := by decide +kernel
theorem dX11_readRule_197 : decode cX11_readRule 197 = .ok (.getfield 37, 3) := by decide +kernel
theorem dX11_readRule_200 : decode cX11_readRule 200 = .ok (.aload_n 0, 1) := by decide +kernel
theorem dX11_readRule_201 : decode cX11_readRule 201 = .ok (.getfield 153, 3) := by decide +kernel
theorem dX11_readRule_204 : decode cX11_readRule 204 = .ok (.iload_n 2, 1) := by decide +kernel
theorem dX11_readRule_205 : decode cX11_readRule 205 = .ok (.iastore, 1) := by decide +kernel
theorem dX11_readRule_206 : decode cX11_readRule 206 = .ok (.aload_n 0, 1) := by decide +kernel
theorem dX11_readRule_207 : decode cX11_readRule 207 = .ok (.dup, 1) := by decide +kernel
theorem dX11_readRule_208 : decode cX11_readRule 208 = .ok (.getfield 153, 3) := by decide +kernel
theorem dX11_readRule_211 : decode cX11_readRule 211 = .ok (.iconst 1, 1) := by decide +kernel
theorem dX11_readRule_212 : decode cX11_readRule 212 = .ok (.iadd, 1) := by decide +kernel
theorem dX11_readRule_213 : decode cX11_readRule 213 = .ok (.putfield 153, 3) := by decide +kernel
theorem dX11_readRule_216 : decode cX11_readRule 216 = .ok (.return_, 1) := by decide +kernel
theorem dX11_rules_0 : decode cX11_rules 0 = .ok (.aload_n 0, 1) := by decide +kernel
theorem dX11_rules_1 : decode cX11_rules 1 = .ok (.iconst 0, 1) := by decide +kernel
theorem dX11_rules_2 : decode cX11_rules 2 = .ok (.putfield 52, 3) := by decide +kernel
theorem dX11_rules_5 : decode cX11_rules 5 = .ok (.aload_n 0, 1) := by decide +kernel
theorem dX11_rules_6 : decode cX11_rules 6 = .ok (.aload_n 0, 1) := by decide +kernel
theorem dX11_rules_7 : decode cX11_rules 7 = .ok (.getfield 107, 3) := by decide +kernel
theorem dX11_rules_10 : decode cX11_rules 10 = .ok (.putfield 113, 3) := by decide +kernel
theorem dX11_rules_13 : decode cX11_rules 13 = .ok (.aload_n 0, 1) := by decide +kernel
theorem dX11_rules_14 : decode cX11_rules 14 = .ok (.iconst 0, 1) := by decide +kernel
theorem dX11_rules_15 : decode cX11_rules 15 = .ok (.putfield 107, 3) := by decide +kernel
theorem dX11_rules_18 : decode cX11_rules 18 = .ok (.aload_n 0, 1) := by decide +kernel
theorem dX11_rules_19 : decode cX11_rules 19 = .ok (.iconst 0, 1) := by decide +kernel
theorem dX11_rules_20 : decode cX11_rules 20 = .ok (.putfield 116, 3) := by decide +kernel
theorem dX11_rules_23 : decode cX11_rules 23 = .ok (.aload_n 0, 1) := by decide +kernel
theorem dX11_rules_24 : decode cX11_rules 24 = .ok (.iconst 0, 1) := by decide +kernel
theorem dX11_rules_25 : decode cX11_rules 25 = .ok (.putfield 137, 3) := by decide +kernel
theorem dX11_rules_28 : decode cX11_rules 28 = .ok (.aload_n 0, 1) := by decide +kernel
theorem dX11_rules_29 : decode cX11_rules 29 = .ok (.iconst 0, 1) := by decide +kernel
theorem dX11_rules_30 : decode cX11_rules 30 = .ok (.putfield 153, 3) := by decide +kernel
theorem dX11_rules_33 : decode cX11_rules 33 = .ok (.aload_n 0, 1) := by decide +kernel
theorem dX11_rules_34 : decode cX11_rules 34 = .ok (.invokevirtual 146, 3) := by decide +kernel
theorem dX11_rules_37 : decode cX11_rules 37 = .ok (.aload_n 0, 1) := by decide +kernel
theorem dX11_rules_38 : decode cX11_rules 38 = .ok (.getfield 137, 3) := by decide +kernel
theorem dX11_rules_41 : decode cX11_rules 41 = .ok (.ifCond .ne 18, 3) := by decide +kernel
theorem dX11_rules_44 : decode cX11_rules 44 = .ok (.aload_n 0, 1) := by decide +kernel
theorem dX11_rules_45 : decode cX11_rules 45 = .ok (.getfield 125, 3) := by decide +kernel
theorem dX11_rules_48 : decode cX11_rules 48 = .ok (.iconst 1, 1) := by decide +kernel
theorem dX11_rules_49 : decode cX11_rules 49 = .ok (.if_icmp .eq 10, 3) := by decide +kernel
theorem dX11_rules_52 : decode cX11_rules 52 = .ok (.aload_n 0, 1) := by decide +kernel
theorem dX11_rules_53 : decode cX11_rules 53 = .ok (.invokevirtual 182, 3) := by decide +kernel
theorem dX11_rules_56 : decode cX11_rules 56 = .ok (.goto (-19), 3) := by decide +kernel
theorem dX11_rules_59 : decode cX11_rules 59 = .ok (.aload_n 0, 1) := by decide +kernel
theorem dX11_rules_60 : decode cX11_rules 60 = .ok (.getfield 137, 3) := by decide +kernel
theorem dX11_rules_63 : decode cX11_rules 63 = .ok (.ifCond .le 19, 3) := by decide +kernel
theorem dX11_rules_66 : decode cX11_rules 66 = .ok (.aload_n 0, 1) := by decide +kernel
theorem dX11_rules_67 : decode cX11_rules 67 = .ok (.aload_n 0, 1) := by decide +kernel
theorem dX11_rules_68 : decode cX11_rules 68 = .ok (.getfield 137, 3) := by decide +kernel
theorem dX11_rules_71 : decode cX11_rules 71 = .ok (.putfield 185, 3) := by decide +kernel
theorem dX11_rules_74 : decode cX11_rules 74 = .ok (.ldc 188, 2) := by decide +kernel
theorem dX11_rules_76 : decode cX11_rules 76 = .ok (.aload_n 0, 1) := by decide +kernel
theorem dX11_rules_77 : decode cX11_rules 77 = .ok (.getfield 140, 3) := by decide +kernel
theorem dX11_rules_80 : decode cX11_rules 80 = .ok (.isub, 1) := by decide +kernel
theorem dX11_rules_81 : decode cX11_rules 81 = .ok (.ireturn, 1) := by decide +kernel
theorem dX11_rules_82 : decode cX11_rules 82 = .ok (.aload_n 0, 1) := by decide +kernel
theorem dX11_rules_83 : decode cX11_rules 83 = .ok (.aload_n 0, 1) := by decide +kernel
theorem dX11_rules_84 : decode cX11_rules 84 = .ok (.getfield 153, 3) := by decide +kernel
theorem dX11_rules_87 : decode cX11_rules 87 = .ok (.putfield 189, 3) := by decide +kernel
theorem dX11_rules_90 : decode cX11_rules 90 = .ok (.iconst 0, 1) := by decide +kernel
theorem dX11_rules_91 : decode cX11_rules 91 = .ok (.istore_n 1, 1) := by decide +kernel
theorem dX11_rules_92 : decode cX11_rules 92 = .ok (.iload_n 1, 1) := by decide +kernel
theorem dX11_rules_93 : decode cX11_rules 93 = .ok (.bipush 15, 2) := by decide +kernel
theorem dX11_rules_95 : decode cX11_rules 95 = .ok (.if_icmp .ge 69, 3) := by decide +kernel
theorem dX11_rules_98 : decode cX11_rules 98 = .ok (.aload_n 0, 1) := by decide +kernel
theorem dX11_rules_99 : decode cX11_rules 99 = .ok (.getfield 22, 3) := by decide +kernel
theorem dX11_rules_102 : decode cX11_rules 102 = .ok (.iload_n 1, 1) := by decide +kernel
theorem dX11_rules_103 : decode cX11_rules 103 = .ok (.aload_n 0, 1) := by decide +kernel
theorem dX11_rules_104 : decode cX11_rules 104 = .ok (.getfield 31, 3) := by decide +kernel
theorem dX11_rules_107 : decode cX11_rules 107 = .ok (.iload_n 1, 1) := by decide +kernel
theorem dX11_rules_108 : decode cX11_rules 108 = .ok (.iaload, 1) := by decide +kernel
theorem dX11_rules_109 : decode cX11_rules 109 = .ok (.iastore, 1) := by decide +kernel
theorem dX11_rules_110 : decode cX11_rules 110 = .ok (.aload_n 0, 1) := by decide +kernel
theorem dX11_rules_111 : decode cX11_rules 111 = .ok (.getfield 28, 3) := by decide +kernel
theorem dX11_rules_114 : decode cX11_rules 114 = .ok (.iload_n 1, 1) := by decide +kernel
theorem dX11_rules_115 : decode cX11_rules 115 = .ok (.aload_n 0, 1) := by decide +kernel
theorem dX11_rules_116 : decode cX11_rules 116 = .ok (.getfield 37, 3) := by decide +kernel
theorem dX11_rules_119 : decode cX11_rules 119 = .ok (.iload_n 1, 1) := by decide +kernel
theorem dX11_rules_120 : decode cX11_rules 120 = .ok (.iaload, 1) := by decide +kernel
theorem dX11_rules_121 : decode cX11_rules 121 = .ok (.iastore, 1) := by decide +kernel
theorem dX11_rules_122 : decode cX11_rules 122 = .ok (.iconst 0, 1) := by decide +kernel
theorem dX11_rules_123 : decode cX11_rules 123 = .ok (.istore_n 2, 1) := by decide +kernel
theorem dX11_rules_124 : decode cX11_rules 124 = .ok (.iload_n 2, 1) := by decide +kernel
theorem dX11_rules_125 : decode cX11_rules 125 = .ok (.bipush 12, 2) := by decide +kernel
theorem dX11_rules_127 : decode cX11_rules 127 = .ok (.if_icmp .ge 31, 3) := by decide +kernel
theorem dX11_rules_130 : decode cX11_rules 130 = .ok (.aload_n 0, 1) := by decide +kernel
theorem dX11_rules_131 : decode cX11_rules 131 = .ok (.getfield 25, 3) := by decide +kernel
theorem dX11_rules_134 : decode cX11_rules 134 = .ok (.bipush 12, 2) := by decide +kernel
theorem dX11_rules_136 : decode cX11_rules 136 = .ok (.iload_n 1, 1) := by decide +kernel
theorem dX11_rules_137 : decode cX11_rules 137 = .ok (.imul, 1) := by decide +kernel
theorem dX11_rules_138 : decode cX11_rules 138 = .ok (.iload_n 2, 1) := by decide +kernel
theorem dX11_rules_139 : decode cX11_rules 139 = .ok (.iadd, 1) := by decide +kernel
theorem dX11_rules_140 : decode cX11_rules 140 = .ok (.aload_n 0, 1) := by decide +kernel
theorem dX11_rules_141 : decode cX11_rules 141 = .ok (.getfield 34, 3) := by decide +kernel
theorem dX11_rules_144 : decode cX11_rules 144 = .ok (.bipush 12, 2) := by decide +kernel
theorem dX11_rules_146 : decode cX11_rules 146 = .ok (.iload_n 1, 1) := by decide +kernel
theorem dX11_rules_147 : decode cX11_rules 147 = .ok (.imul, 1) := by decide +kernel
theorem dX11_rules_148 : decode cX11_rules 148 = .ok (.iload_n 2, 1) := by decide +kernel
theorem dX11_rules_149 : decode cX11_rules 149 = .ok (.iadd, 1) := by decide +kernel
theorem dX11_rules_150 : decode cX11_rules 150 = .ok (.iaload, 1) := by decide +kernel
theorem dX11_rules_151 : decode cX11_rules 151 = .ok (.iastore, 1) := by decide +kernel
theorem dX11_rules_152 : decode cX11_rules 152 = .ok (.iinc 2 1, 3) := by decide +kernel
theorem dX11_rules_155 : decode cX11_rules 155 = .ok (.goto (-31), 3) := by decide +kernel
theorem dX11_rules_158 : decode cX11_rules 158 = .ok (.iinc 1 1, 3) := by decide +kernel
theorem dX11_rules_161 : decode cX11_rules 161 = .ok (.goto (-69), 3) := by decide +kernel
theorem dX11_rules_164 : decode cX11_rules 164 = .ok (.aload_n 0, 1) := by decide +kernel
theorem dX11_rules_165 : decode cX11_rules 165 = .ok (.getfield 189, 3) := by decide +kernel
theorem dX11_rules_168 : decode cX11_rules 168 = .ok (.ireturn, 1) := by decide +kernel
theorem dX11_fault_0 : decode cX11_fault 0 = .ok (.aload_n 0, 1) := by decide +kernel
theorem dX11_fault_1 : decode cX11_fault 1 = .ok (.iconst 0, 1) := by decide +kernel
theorem dX11_fault_2 : decode cX11_fault 2 = .ok (.putfield 52, 3) := by decide +kernel
theorem dX11_fault_5 : decode cX11_fault 5 = .ok (.aload_n 0, 1) := by decide +kernel
theorem dX11_fault_6 : decode cX11_fault 6 = .ok (.getfield 185, 3) := by decide +kernel
theorem dX11_fault_9 : decode cX11_fault 9 = .ok (.ireturn, 1) := by decide +kernel
theorem dX11_isTrue_0 : decode cX11_isTrue 0 = .ok (.iconst 1, 1) := by decide +kernel
theorem dX11_isTrue_1 : decode cX11_isTrue 1 = .ok (.istore_n 2, 1) := by decide +kernel
theorem dX11_isTrue_2 : decode cX11_isTrue 2 = .ok (.iconst 0, 1) := by decide +kernel
theorem dX11_isTrue_3 : decode cX11_isTrue 3 = .ok (.istore_n 3, 1) := by decide +kernel
theorem dX11_isTrue_4 : decode cX11_isTrue 4 = .ok (.iload_n 3, 1) := by decide +kernel
theorem dX11_isTrue_5 : decode cX11_isTrue 5 = .ok (.aload_n 0, 1) := by decide +kernel
theorem dX11_isTrue_6 : decode cX11_isTrue 6 = .ok (.getfield 22, 3) := by decide +kernel
theorem dX11_isTrue_9 : decode cX11_isTrue 9 = .ok (.iload_n 1, 1) := by decide +kernel
theorem dX11_isTrue_10 : decode cX11_isTrue 10 = .ok (.iaload, 1) := by decide +kernel
theorem dX11_isTrue_11 : decode cX11_isTrue 11 = .ok (.if_icmp .ge 219, 3) := by decide +kernel
theorem dX11_isTrue_14 : decode cX11_isTrue 14 = .ok (.bipush 12, 2) := by decide +kernel
theorem dX11_isTrue_16 : decode cX11_isTrue 16 = .ok (.iload_n 1, 1) := by decide +kernel
theorem dX11_isTrue_17 : decode cX11_isTrue 17 = .ok (.imul, 1) := by decide +kernel
theorem dX11_isTrue_18 : decode cX11_isTrue 18 = .ok (.iconst 3, 1) := by decide +kernel
theorem dX11_isTrue_19 : decode cX11_isTrue 19 = .ok (.iload_n 3, 1) := by decide +kernel
theorem dX11_isTrue_20 : decode cX11_isTrue 20 = .ok (.imul, 1) := by decide +kernel
theorem dX11_isTrue_21 : decode cX11_isTrue 21 = .ok (.iadd, 1) := by decide +kernel
theorem dX11_isTrue_22 : decode cX11_isTrue 22 = .ok (.istore 4, 2) := by decide +kernel
theorem dX11_isTrue_24 : decode cX11_isTrue 24 = .ok (.aload_n 0, 1) := by decide +kernel
theorem dX11_isTrue_25 : decode cX11_isTrue 25 = .ok (.getfield 25, 3) := by decide +kernel
theorem dX11_isTrue_28 : decode cX11_isTrue 28 = .ok (.iload 4, 2) := by decide +kernel
theorem dX11_isTrue_30 : decode cX11_isTrue 30 = .ok (.iconst 1, 1) := by decide +kernel
theorem dX11_isTrue_31 : decode cX11_isTrue 31 = .ok (.iadd, 1) := by decide +kernel
theorem dX11_isTrue_32 : decode cX11_isTrue 32 = .ok (.iaload, 1) := by decide +kernel
theorem dX11_isTrue_33 : decode cX11_isTrue 33 = .ok (.istore 5, 2) := by decide +kernel
theorem dX11_isTrue_35 : decode cX11_isTrue 35 = .ok (.aload_n 0, 1) := by decide +kernel
theorem dX11_isTrue_36 : decode cX11_isTrue 36 = .ok (.getfield 25, 3) := by decide +kernel
theorem dX11_isTrue_39 : decode cX11_isTrue 39 = .ok (.iload 4, 2) := by decide +kernel
theorem dX11_isTrue_41 : decode cX11_isTrue 41 = .ok (.iconst 2, 1) := by decide +kernel
theorem dX11_isTrue_42 : decode cX11_isTrue 42 = .ok (.iadd, 1) := by decide +kernel
theorem dX11_isTrue_43 : decode cX11_isTrue 43 = .ok (.iaload, 1) := by decide +kernel
theorem dX11_isTrue_44 : decode cX11_isTrue 44 = .ok (.istore 6, 2) := by decide +kernel
theorem dX11_isTrue_46 : decode cX11_isTrue 46 = .ok (.aload_n 0, 1) := by decide +kernel
theorem dX11_isTrue_47 : decode cX11_isTrue 47 = .ok (.getfield 25, 3) := by decide +kernel
theorem dX11_isTrue_50 : decode cX11_isTrue 50 = .ok (.iload 4, 2) := by decide +kernel
theorem dX11_isTrue_52 : decode cX11_isTrue 52 = .ok (.iaload, 1) := by decide +kernel
theorem dX11_isTrue_53 : decode cX11_isTrue 53 = .ok (.iconst 1, 1) := by decide +kernel
theorem dX11_isTrue_54 : decode cX11_isTrue 54 = .ok (.if_icmp .ne 28, 3) := by decide +kernel
theorem dX11_isTrue_57 : decode cX11_isTrue 57 = .ok (.iload_n 2, 1) := by decide +kernel
theorem dX11_isTrue_58 : decode cX11_isTrue 58 = .ok (.ifCond .eq 19, 3) := by decide +kernel
theorem dX11_isTrue_61 : decode cX11_isTrue 61 = .ok (.aload_n 0, 1) := by decide +kernel
theorem dX11_isTrue_62 : decode cX11_isTrue 62 = .ok (.getfield 19, 3) := by decide +kernel
theorem dX11_isTrue_65 : decode cX11_isTrue 65 = .ok (.iload 6, 2) := by decide +kernel
theorem dX11_isTrue_67 : decode cX11_isTrue 67 = .ok (.iaload, 1) := by decide +kernel
theorem dX11_isTrue_68 : decode cX11_isTrue 68 = .ok (.iload 5, 2) := by decide +kernel
theorem dX11_isTrue_70 : decode cX11_isTrue 70 = .ok (.if_icmp .ne 7, 3) := by decide +kernel
theorem dX11_isTrue_73 : decode cX11_isTrue 73 = .ok (.iconst 1, 1) := by decide +kernel
theorem dX11_isTrue_74 : decode cX11_isTrue 74 = .ok (.goto 4, 3) := by decide +kernel
theorem dX11_isTrue_77 : decode cX11_isTrue 77 = .ok (.iconst 0, 1) := by decide +kernel
theorem dX11_isTrue_78 : decode cX11_isTrue 78 = .ok (.istore_n 2, 1) := by decide +kernel
theorem dX11_isTrue_79 : decode cX11_isTrue 79 = .ok (.goto 145, 3) := by decide +kernel
theorem dX11_isTrue_82 : decode cX11_isTrue 82 = .ok (.aload_n 0, 1) := by decide +kernel
theorem dX11_isTrue_83 : decode cX11_isTrue 83 = .ok (.getfield 25, 3) := by decide +kernel
theorem dX11_isTrue_86 : decode cX11_isTrue 86 = .ok (.iload 4, 2) := by decide +kernel
theorem dX11_isTrue_88 : decode cX11_isTrue 88 = .ok (.iaload, 1) := by decide +kernel
theorem dX11_isTrue_89 : decode cX11_isTrue 89 = .ok (.iconst 2, 1) := by decide +kernel
theorem dX11_isTrue_90 : decode cX11_isTrue 90 = .ok (.if_icmp .ne 33, 3) := by decide +kernel
theorem dX11_isTrue_93 : decode cX11_isTrue 93 = .ok (.iload_n 2, 1) := by decide +kernel
theorem dX11_isTrue_94 : decode cX11_isTrue 94 = .ok (.ifCond .eq 24, 3) := by decide +kernel
theorem dX11_isTrue_97 : decode cX11_isTrue 97 = .ok (.aload_n 0, 1) := by decide +kernel
theorem dX11_isTrue_98 : decode cX11_isTrue 98 = .ok (.getfield 19, 3) := by decide +kernel
theorem dX11_isTrue_101 : decode cX11_isTrue 101 = .ok (.iload 5, 2) := by decide +kernel
theorem dX11_isTrue_103 : decode cX11_isTrue 103 = .ok (.iaload, 1) := by decide +kernel
theorem dX11_isTrue_104 : decode cX11_isTrue 104 = .ok (.aload_n 0, 1) := by decide +kernel
theorem dX11_isTrue_105 : decode cX11_isTrue 105 = .ok (.getfield 19, 3) := by decide +kernel
theorem dX11_isTrue_108 : decode cX11_isTrue 108 = .ok (.iload 6, 2) := by decide +kernel
theorem dX11_isTrue_110 : decode cX11_isTrue 110 = .ok (.iaload, 1) := by decide +kernel
theorem dX11_isTrue_111 : decode cX11_isTrue 111 = .ok (.if_icmp .ne 7, 3) := by decide +kernel
theorem dX11_isTrue_114 : decode cX11_isTrue 114 = .ok (.iconst 1, 1) := by decide +kernel
theorem dX11_isTrue_115 : decode cX11_isTrue 115 = .ok (.goto 4, 3) := by decide +kernel
theorem dX11_isTrue_118 : decode cX11_isTrue 118 = .ok (.iconst 0, 1) := by decide +kernel
theorem dX11_isTrue_119 : decode cX11_isTrue 119 = .ok (.istore_n 2, 1) := by decide +kernel
theorem dX11_isTrue_120 : decode cX11_isTrue 120 = .ok (.goto 104, 3) := by decide +kernel
theorem dX11_isTrue_123 : decode cX11_isTrue 123 = .ok (.aload_n 0, 1) := by decide +kernel
theorem dX11_isTrue_124 : decode cX11_isTrue 124 = .ok (.getfield 25, 3) := by decide +kernel
theorem dX11_isTrue_127 : decode cX11_isTrue 127 = .ok (.iload 4, 2) := by decide +kernel
theorem dX11_isTrue_129 : decode cX11_isTrue 129 = .ok (.iaload, 1) := by decide +kernel
theorem dX11_isTrue_130 : decode cX11_isTrue 130 = .ok (.iconst 4, 1) := by decide +kernel
theorem dX11_isTrue_131 : decode cX11_isTrue 131 = .ok (.if_icmp .ne 31, 3) := by decide +kernel
theorem dX11_isTrue_134 : decode cX11_isTrue 134 = .ok (.iload_n 2, 1) := by decide +kernel
theorem dX11_isTrue_135 : decode cX11_isTrue 135 = .ok (.ifCond .eq 22, 3) := by decide +kernel
theorem dX11_isTrue_138 : decode cX11_isTrue 138 = .ok (.aload_n 0, 1) := by decide +kernel
theorem dX11_isTrue_139 : decode cX11_isTrue 139 = .ok (.getfield 19, 3) := by decide +kernel
theorem dX11_isTrue_142 : decode cX11_isTrue 142 = .ok (.iload 5, 2) := by decide +kernel
theorem dX11_isTrue_144 : decode cX11_isTrue 144 = .ok (.iaload, 1) := by decide +kernel
theorem dX11_isTrue_145 : decode cX11_isTrue 145 = .ok (.invokestatic 102, 3) := by decide +kernel
theorem dX11_isTrue_148 : decode cX11_isTrue 148 = .ok (.iconst 2, 1) := by decide +kernel
theorem dX11_isTrue_149 : decode cX11_isTrue 149 = .ok (.irem, 1) := by decide +kernel
theorem dX11_isTrue_150 : decode cX11_isTrue 150 = .ok (.ifCond .ne 7, 3) := by decide +kernel
theorem dX11_isTrue_153 : decode cX11_isTrue 153 = .ok (.iconst 1, 1) := by decide +kernel
theorem dX11_isTrue_154 : decode cX11_isTrue 154 = .ok (.goto 4, 3) := by decide +kernel
theorem dX11_isTrue_157 : decode cX11_isTrue 157 = .ok (.iconst 0, 1) := by decide +kernel
theorem dX11_isTrue_158 : decode cX11_isTrue 158 = .ok (.istore_n 2, 1) := by decide +kernel
theorem dX11_isTrue_159 : decode cX11_isTrue 159 = .ok (.goto 65, 3) := by decide +kernel
theorem dX11_isTrue_162 : decode cX11_isTrue 162 = .ok (.iconst 0, 1) := by decide +kernel
theorem dX11_isTrue_163 : decode cX11_isTrue 163 = .ok (.istore 7, 2) := by decide +kernel
theorem dX11_isTrue_165 : decode cX11_isTrue 165 = .ok (.iconst 1, 1) := by decide +kernel
theorem dX11_isTrue_166 : decode cX11_isTrue 166 = .ok (.istore 8, 2) := by decide +kernel
theorem dX11_isTrue_168 : decode cX11_isTrue 168 = .ok (.iload 8, 2) := by decide +kernel
theorem dX11_isTrue_170 : decode cX11_isTrue 170 = .ok (.bipush 12, 2) := by decide +kernel
theorem dX11_isTrue_172 : decode cX11_isTrue 172 = .ok (.if_icmp .ge 35, 3) := by decide +kernel
theorem dX11_isTrue_175 : decode cX11_isTrue 175 = .ok (.iload 7, 2) := by decide +kernel
theorem dX11_isTrue_177 : decode cX11_isTrue 177 = .ok (.aload_n 0, 1) := by decide +kernel
theorem dX11_isTrue_178 : decode cX11_isTrue 178 = .ok (.getfield 19, 3) := by decide +kernel
theorem dX11_isTrue_181 : decode cX11_isTrue 181 = .ok (.iload 8, 2) := by decide +kernel
theorem dX11_isTrue_183 : decode cX11_isTrue 183 = .ok (.iaload, 1) := by decide +kernel
theorem dX11_isTrue_184 : decode cX11_isTrue 184 = .ok (.aload_n 0, 1) := by decide +kernel
theorem dX11_isTrue_185 : decode cX11_isTrue 185 = .ok (.getfield 19, 3) := by decide +kernel
theorem dX11_isTrue_188 : decode cX11_isTrue 188 = .ok (.iconst 0, 1) := by decide +kernel
theorem dX11_isTrue_189 : decode cX11_isTrue 189 = .ok (.iaload, 1) := by decide +kernel
theorem dX11_isTrue_190 : decode cX11_isTrue 190 = .ok (.if_icmp .ne 7, 3) := by decide +kernel
theorem dX11_isTrue_193 : decode cX11_isTrue 193 = .ok (.iconst 1, 1) := by decide +kernel
theorem dX11_isTrue_194 : decode cX11_isTrue 194 = .ok (.goto 4, 3) := by decide +kernel
theorem dX11_isTrue_197 : decode cX11_isTrue 197 = .ok (.iconst 0, 1) := by decide +kernel
theorem dX11_isTrue_198 : decode cX11_isTrue 198 = .ok (.iadd, 1) := by decide +kernel
theorem dX11_isTrue_199 : decode cX11_isTrue 199 = .ok (.istore 7, 2) := by decide +kernel
theorem dX11_isTrue_201 : decode cX11_isTrue 201 = .ok (.iinc 8 1, 3) := by decide +kernel
theorem dX11_isTrue_204 : decode cX11_isTrue 204 = .ok (.goto (-36), 3) := by decide +kernel
theorem dX11_isTrue_207 : decode cX11_isTrue 207 = .ok (.iload_n 2, 1) := by decide +kernel
theorem dX11_isTrue_208 : decode cX11_isTrue 208 = .ok (.ifCond .eq 14, 3) := by decide +kernel
theorem dX11_isTrue_211 : decode cX11_isTrue 211 = .ok (.iload 7, 2) := by decide +kernel
theorem dX11_isTrue_213 : decode cX11_isTrue 213 = .ok (.iload 5, 2) := by decide +kernel
theorem dX11_isTrue_215 : decode cX11_isTrue 215 = .ok (.if_icmp .lt 7, 3) := by decide +kernel
theorem dX11_isTrue_218 : decode cX11_isTrue 218 = .ok (.iconst 1, 1) := by decide +kernel
theorem dX11_isTrue_219 : decode cX11_isTrue 219 = .ok (.goto 4, 3) := by decide +kernel
theorem dX11_isTrue_222 : decode cX11_isTrue 222 = .ok (.iconst 0, 1) := by decide +kernel
theorem dX11_isTrue_223 : decode cX11_isTrue 223 = .ok (.istore_n 2, 1) := by decide +kernel
theorem dX11_isTrue_224 : decode cX11_isTrue 224 = .ok (.iinc 3 1, 3) := by decide +kernel
theorem dX11_isTrue_227 : decode cX11_isTrue 227 = .ok (.goto (-223), 3) := by decide +kernel
theorem dX11_isTrue_230 : decode cX11_isTrue 230 = .ok (.iload_n 2, 1) := by decide +kernel
theorem dX11_isTrue_231 : decode cX11_isTrue 231 = .ok (.ireturn, 1) := by decide +kernel
theorem dX11_isRule_0 : decode cX11_isRule 0 = .ok (.iload_n 1, 1) := by decide +kernel
theorem dX11_isRule_1 : decode cX11_isRule 1 = .ok (.i2l, 1) := by decide +kernel
theorem dX11_isRule_2 : decode cX11_isRule 2 = .ok (.lconst 0, 1) := by decide +kernel
theorem dX11_isRule_3 : decode cX11_isRule 3 = .ok (.aload_n 0, 1) := by decide +kernel
theorem dX11_isRule_4 : decode cX11_isRule 4 = .ok (.getfield 189, 3) := by decide +kernel
theorem dX11_isRule_7 : decode cX11_isRule 7 = .ok (.iconst 1, 1) := by decide +kernel
theorem dX11_isRule_8 : decode cX11_isRule 8 = .ok (.isub, 1) := by decide +kernel
theorem dX11_isRule_9 : decode cX11_isRule 9 = .ok (.i2l, 1) := by decide +kernel
theorem dX11_isRule_10 : decode cX11_isRule 10 = .ok (.invokestatic 62, 3) := by decide +kernel
theorem dX11_isRule_13 : decode cX11_isRule 13 = .ok (.ireturn, 1) := by decide +kernel
theorem dX11_said_0 : decode cX11_said 0 = .ok (.aload_n 0, 1) := by decide +kernel
theorem dX11_said_1 : decode cX11_said 1 = .ok (.iconst 0, 1) := by decide +kernel
theorem dX11_said_2 : decode cX11_said 2 = .ok (.putfield 52, 3) := by decide +kernel
theorem dX11_said_5 : decode cX11_said 5 = .ok (.iload_n 1, 1) := by decide +kernel
theorem dX11_said_6 : decode cX11_said 6 = .ok (.i2l, 1) := by decide +kernel
theorem dX11_said_7 : decode cX11_said 7 = .ok (.lconst 0, 1) := by decide +kernel
theorem dX11_said_8 : decode cX11_said 8 = .ok (.lconst 1, 1) := by decide +kernel
theorem dX11_said_9 : decode cX11_said 9 = .ok (.invokestatic 62, 3) := by decide +kernel
theorem dX11_said_12 : decode cX11_said 12 = .ok (.ifCond .ne 6, 3) := by decide +kernel
theorem dX11_said_15 : decode cX11_said 15 = .ok (.ldc 72, 2) := by decide +kernel
theorem dX11_said_17 : decode cX11_said 17 = .ok (.ireturn, 1) := by decide +kernel
theorem dX11_said_18 : decode cX11_said 18 = .ok (.aload_n 0, 1) := by decide +kernel
theorem dX11_said_19 : decode cX11_said 19 = .ok (.aload_n 0, 1) := by decide +kernel
theorem dX11_said_20 : decode cX11_said 20 = .ok (.getfield 81, 3) := by decide +kernel
theorem dX11_said_23 : decode cX11_said 23 = .ok (.invokevirtual 86, 3) := by decide +kernel
theorem dX11_said_26 : decode cX11_said 26 = .ok (.iconst 0, 1) := by decide +kernel
theorem dX11_said_27 : decode cX11_said 27 = .ok (.istore_n 2, 1) := by decide +kernel
theorem dX11_said_28 : decode cX11_said 28 = .ok (.iload_n 2, 1) := by decide +kernel
theorem dX11_said_29 : decode cX11_said 29 = .ok (.aload_n 0, 1) := by decide +kernel
theorem dX11_said_30 : decode cX11_said 30 = .ok (.getfield 189, 3) := by decide +kernel
theorem dX11_said_33 : decode cX11_said 33 = .ok (.if_icmp .ge 32, 3) := by decide +kernel
theorem dX11_said_36 : decode cX11_said 36 = .ok (.aload_n 0, 1) := by decide +kernel
theorem dX11_said_37 : decode cX11_said 37 = .ok (.iload_n 2, 1) := by decide +kernel
theorem dX11_said_38 : decode cX11_said 38 = .ok (.invokevirtual 192, 3) := by decide +kernel
theorem dX11_said_41 : decode cX11_said 41 = .ok (.ifCond .eq 18, 3) := by decide +kernel
theorem dX11_said_44 : decode cX11_said 44 = .ok (.iload_n 1, 1) := by decide +kernel
theorem dX11_said_45 : decode cX11_said 45 = .ok (.ifCond .ne 12, 3) := by decide +kernel
theorem dX11_said_48 : decode cX11_said 48 = .ok (.aload_n 0, 1) := by decide +kernel
theorem dX11_said_49 : decode cX11_said 49 = .ok (.getfield 28, 3) := by decide +kernel
theorem dX11_said_52 : decode cX11_said 52 = .ok (.iload_n 2, 1) := by decide +kernel
theorem dX11_said_53 : decode cX11_said 53 = .ok (.iaload, 1) := by decide +kernel
theorem dX11_said_54 : decode cX11_said 54 = .ok (.goto 4, 3) := by decide +kernel
theorem dX11_said_57 : decode cX11_said 57 = .ok (.iload_n 2, 1) := by decide +kernel
theorem dX11_said_58 : decode cX11_said 58 = .ok (.ireturn, 1) := by decide +kernel
theorem dX11_said_59 : decode cX11_said 59 = .ok (.iinc 2 1, 3) := by decide +kernel
theorem dX11_said_62 : decode cX11_said 62 = .ok (.goto (-34), 3) := by decide +kernel
theorem dX11_said_65 : decode cX11_said 65 = .ok (.ldc 100, 2) := by decide +kernel
theorem dX11_said_67 : decode cX11_said 67 = .ok (.ireturn, 1) := by decide +kernel
theorem dX11_holds_0 : decode cX11_holds 0 = .ok (.aload_n 0, 1) := by decide +kernel
theorem dX11_holds_1 : decode cX11_holds 1 = .ok (.iconst 0, 1) := by decide +kernel
theorem dX11_holds_2 : decode cX11_holds 2 = .ok (.putfield 52, 3) := by decide +kernel
theorem dX11_holds_5 : decode cX11_holds 5 = .ok (.aload_n 0, 1) := by decide +kernel
theorem dX11_holds_6 : decode cX11_holds 6 = .ok (.iload_n 1, 1) := by decide +kernel
theorem dX11_holds_7 : decode cX11_holds 7 = .ok (.invokevirtual 195, 3) := by decide +kernel
theorem dX11_holds_10 : decode cX11_holds 10 = .ok (.ifCond .ne 6, 3) := by decide +kernel
theorem dX11_holds_13 : decode cX11_holds 13 = .ok (.ldc 72, 2) := by decide +kernel
theorem dX11_holds_15 : decode cX11_holds 15 = .ok (.ireturn, 1) := by decide +kernel
theorem dX11_holds_16 : decode cX11_holds 16 = .ok (.aload_n 0, 1) := by decide +kernel
theorem dX11_holds_17 : decode cX11_holds 17 = .ok (.aload_n 0, 1) := by decide +kernel
theorem dX11_holds_18 : decode cX11_holds 18 = .ok (.getfield 81, 3) := by decide +kernel
theorem dX11_holds_21 : decode cX11_holds 21 = .ok (.invokevirtual 86, 3) := by decide +kernel
theorem dX11_holds_24 : decode cX11_holds 24 = .ok (.aload_n 0, 1) := by decide +kernel
theorem dX11_holds_25 : decode cX11_holds 25 = .ok (.iload_n 1, 1) := by decide +kernel
theorem dX11_holds_26 : decode cX11_holds 26 = .ok (.invokevirtual 192, 3) := by decide +kernel
theorem dX11_holds_29 : decode cX11_holds 29 = .ok (.ifCond .eq 7, 3) := by decide +kernel
theorem dX11_holds_32 : decode cX11_holds 32 = .ok (.iconst 1, 1) := by decide +kernel
theorem dX11_holds_33 : decode cX11_holds 33 = .ok (.goto 4, 3) := by decide +kernel
theorem dX11_holds_36 : decode cX11_holds 36 = .ok (.iconst 0, 1) := by decide +kernel
theorem dX11_holds_37 : decode cX11_holds 37 = .ok (.ireturn, 1) := by decide +kernel
theorem dX11_record_0 : decode cX11_record 0 = .ok (.aload_n 0, 1) := by decide +kernel
theorem dX11_record_1 : decode cX11_record 1 = .ok (.iconst 0, 1) := by decide +kernel
theorem dX11_record_2 : decode cX11_record 2 = .ok (.putfield 52, 3) := by decide +kernel
theorem dX11_record_5 : decode cX11_record 5 = .ok (.iload_n 1, 1) := by decide +kernel
theorem dX11_record_6 : decode cX11_record 6 = .ok (.i2l, 1) := by decide +kernel
theorem dX11_record_7 : decode cX11_record 7 = .ok (.lconst 0, 1) := by decide +kernel
theorem dX11_record_8 : decode cX11_record 8 = .ok (.ldc2_w 70, 3) := by decide +kernel
theorem dX11_record_11 : decode cX11_record 11 = .ok (.invokestatic 62, 3) := by decide +kernel
theorem dX11_record_14 : decode cX11_record 14 = .ok (.ifCond .ne 6, 3) := by decide +kernel
theorem dX11_record_17 : decode cX11_record 17 = .ok (.ldc 72, 2) := by decide +kernel
theorem dX11_record_19 : decode cX11_record 19 = .ok (.ireturn, 1) := by decide +kernel
theorem dX11_record_20 : decode cX11_record 20 = .ok (.aload_n 0, 1) := by decide +kernel
theorem dX11_record_21 : decode cX11_record 21 = .ok (.getfield 198, 3) := by decide +kernel
theorem dX11_record_24 : decode cX11_record 24 = .ok (.bipush 100, 2) := by decide +kernel
theorem dX11_record_26 : decode cX11_record 26 = .ok (.if_icmp .ne 6, 3) := by decide +kernel
theorem dX11_record_29 : decode cX11_record 29 = .ok (.ldc 110, 2) := by decide +kernel
theorem dX11_record_31 : decode cX11_record 31 = .ok (.ireturn, 1) := by decide +kernel
theorem dX11_record_32 : decode cX11_record 32 = .ok (.aload_n 0, 1) := by decide +kernel
theorem dX11_record_33 : decode cX11_record 33 = .ok (.getfield 43, 3) := by decide +kernel
theorem dX11_record_36 : decode cX11_record 36 = .ok (.aload_n 0, 1) := by decide +kernel
theorem dX11_record_37 : decode cX11_record 37 = .ok (.getfield 198, 3) := by decide +kernel
theorem dX11_record_40 : decode cX11_record 40 = .ok (.aload_n 0, 1) := by decide +kernel
theorem dX11_record_41 : decode cX11_record 41 = .ok (.getfield 81, 3) := by decide +kernel
theorem dX11_record_44 : decode cX11_record 44 = .ok (.iastore, 1) := by decide +kernel
theorem dX11_record_45 : decode cX11_record 45 = .ok (.aload_n 0, 1) := by decide +kernel
theorem dX11_record_46 : decode cX11_record 46 = .ok (.getfield 46, 3) := by decide +kernel
theorem dX11_record_49 : decode cX11_record 49 = .ok (.aload_n 0, 1) := by decide +kernel
theorem dX11_record_50 : decode cX11_record 50 = .ok (.getfield 198, 3) := by decide +kernel
theorem dX11_record_53 : decode cX11_record 53 = .ok (.iload_n 1, 1) := by decide +kernel
theorem dX11_record_54 : decode cX11_record 54 = .ok (.iastore, 1) := by decide +kernel
theorem dX11_record_55 : decode cX11_record 55 = .ok (.aload_n 0, 1) := by decide +kernel
theorem dX11_record_56 : decode cX11_record 56 = .ok (.dup, 1) := by decide +kernel
theorem dX11_record_57 : decode cX11_record 57 = .ok (.getfield 198, 3) := by decide +kernel
theorem dX11_record_60 : decode cX11_record 60 = .ok (.iconst 1, 1) := by decide +kernel
theorem dX11_record_61 : decode cX11_record 61 = .ok (.iadd, 1) := by decide +kernel
theorem dX11_record_62 : decode cX11_record 62 = .ok (.putfield 198, 3) := by decide +kernel
theorem dX11_record_65 : decode cX11_record 65 = .ok (.aload_n 0, 1) := by decide +kernel
theorem dX11_record_66 : decode cX11_record 66 = .ok (.getfield 198, 3) := by decide +kernel
theorem dX11_record_69 : decode cX11_record 69 = .ok (.ireturn, 1) := by decide +kernel
theorem dX11_cameSo_0 : decode cX11_cameSo 0 = .ok (.iconst 0, 1) := by decide +kernel
theorem dX11_cameSo_1 : decode cX11_cameSo 1 = .ok (.istore_n 2, 1) := by decide +kernel
theorem dX11_cameSo_2 : decode cX11_cameSo 2 = .ok (.iconst 0, 1) := by decide +kernel
theorem dX11_cameSo_3 : decode cX11_cameSo 3 = .ok (.istore_n 3, 1) := by decide +kernel
theorem dX11_cameSo_4 : decode cX11_cameSo 4 = .ok (.iload_n 3, 1) := by decide +kernel
theorem dX11_cameSo_5 : decode cX11_cameSo 5 = .ok (.aload_n 0, 1) := by decide +kernel
theorem dX11_cameSo_6 : decode cX11_cameSo 6 = .ok (.getfield 198, 3) := by decide +kernel
theorem dX11_cameSo_9 : decode cX11_cameSo 9 = .ok (.if_icmp .ge 27, 3) := by decide +kernel
theorem dX11_cameSo_12 : decode cX11_cameSo 12 = .ok (.iload_n 2, 1) := by decide +kernel
theorem dX11_cameSo_13 : decode cX11_cameSo 13 = .ok (.aload_n 0, 1) := by decide +kernel
theorem dX11_cameSo_14 : decode cX11_cameSo 14 = .ok (.getfield 46, 3) := by decide +kernel
theorem dX11_cameSo_17 : decode cX11_cameSo 17 = .ok (.iload_n 3, 1) := by decide +kernel
theorem dX11_cameSo_18 : decode cX11_cameSo 18 = .ok (.iaload, 1) := by decide +kernel
theorem dX11_cameSo_19 : decode cX11_cameSo 19 = .ok (.iload_n 1, 1) := by decide +kernel
theorem dX11_cameSo_20 : decode cX11_cameSo 20 = .ok (.if_icmp .ne 7, 3) := by decide +kernel
theorem dX11_cameSo_23 : decode cX11_cameSo 23 = .ok (.iconst 1, 1) := by decide +kernel
theorem dX11_cameSo_24 : decode cX11_cameSo 24 = .ok (.goto 4, 3) := by decide +kernel
theorem dX11_cameSo_27 : decode cX11_cameSo 27 = .ok (.iconst 0, 1) := by decide +kernel
theorem dX11_cameSo_28 : decode cX11_cameSo 28 = .ok (.iadd, 1) := by decide +kernel
theorem dX11_cameSo_29 : decode cX11_cameSo 29 = .ok (.istore_n 2, 1) := by decide +kernel
theorem dX11_cameSo_30 : decode cX11_cameSo 30 = .ok (.iinc 3 1, 3) := by decide +kernel
theorem dX11_cameSo_33 : decode cX11_cameSo 33 = .ok (.goto (-29), 3) := by decide +kernel
theorem dX11_cameSo_36 : decode cX11_cameSo 36 = .ok (.iload_n 2, 1) := by decide +kernel
theorem dX11_cameSo_37 : decode cX11_cameSo 37 = .ok (.ireturn, 1) := by decide +kernel
theorem dX11_holdsIn_0 : decode cX11_holdsIn 0 = .ok (.iconst 0, 1) := by decide +kernel
theorem dX11_holdsIn_1 : decode cX11_holdsIn 1 = .ok (.istore_n 3, 1) := by decide +kernel
theorem dX11_holdsIn_2 : decode cX11_holdsIn 2 = .ok (.iconst 0, 1) := by decide +kernel
theorem dX11_holdsIn_3 : decode cX11_holdsIn 3 = .ok (.istore 4, 2) := by decide +kernel
theorem dX11_holdsIn_5 : decode cX11_holdsIn 5 = .ok (.iload 4, 2) := by decide +kernel
theorem dX11_holdsIn_7 : decode cX11_holdsIn 7 = .ok (.aload_n 0, 1) := by decide +kernel
theorem dX11_holdsIn_8 : decode cX11_holdsIn 8 = .ok (.getfield 198, 3) := by decide +kernel
theorem dX11_holdsIn_11 : decode cX11_holdsIn 11 = .ok (.if_icmp .ge 47, 3) := by decide +kernel
theorem dX11_holdsIn_14 : decode cX11_holdsIn 14 = .ok (.aload_n 0, 1) := by decide +kernel
theorem dX11_holdsIn_15 : decode cX11_holdsIn 15 = .ok (.aload_n 0, 1) := by decide +kernel
theorem dX11_holdsIn_16 : decode cX11_holdsIn 16 = .ok (.getfield 43, 3) := by decide +kernel
theorem dX11_holdsIn_19 : decode cX11_holdsIn 19 = .ok (.iload 4, 2) := by decide +kernel
theorem dX11_holdsIn_21 : decode cX11_holdsIn 21 = .ok (.iaload, 1) := by decide +kernel
theorem dX11_holdsIn_22 : decode cX11_holdsIn 22 = .ok (.invokevirtual 86, 3) := by decide +kernel
theorem dX11_holdsIn_25 : decode cX11_holdsIn 25 = .ok (.iload_n 3, 1) := by decide +kernel
theorem dX11_holdsIn_26 : decode cX11_holdsIn 26 = .ok (.aload_n 0, 1) := by decide +kernel
theorem dX11_holdsIn_27 : decode cX11_holdsIn 27 = .ok (.getfield 46, 3) := by decide +kernel
theorem dX11_holdsIn_30 : decode cX11_holdsIn 30 = .ok (.iload 4, 2) := by decide +kernel
theorem dX11_holdsIn_32 : decode cX11_holdsIn 32 = .ok (.iaload, 1) := by decide +kernel
theorem dX11_holdsIn_33 : decode cX11_holdsIn 33 = .ok (.iload_n 2, 1) := by decide +kernel
theorem dX11_holdsIn_34 : decode cX11_holdsIn 34 = .ok (.if_icmp .ne 15, 3) := by decide +kernel
theorem dX11_holdsIn_37 : decode cX11_holdsIn 37 = .ok (.aload_n 0, 1) := by decide +kernel
theorem dX11_holdsIn_38 : decode cX11_holdsIn 38 = .ok (.iload_n 1, 1) := by decide +kernel
theorem dX11_holdsIn_39 : decode cX11_holdsIn 39 = .ok (.invokevirtual 192, 3) := by decide +kernel
theorem dX11_holdsIn_42 : decode cX11_holdsIn 42 = .ok (.ifCond .eq 7, 3) := by decide +kernel
theorem dX11_holdsIn_45 : decode cX11_holdsIn 45 = .ok (.iconst 1, 1) := by decide +kernel
theorem dX11_holdsIn_46 : decode cX11_holdsIn 46 = .ok (.goto 4, 3) := by decide +kernel
theorem dX11_holdsIn_49 : decode cX11_holdsIn 49 = .ok (.iconst 0, 1) := by decide +kernel
theorem dX11_holdsIn_50 : decode cX11_holdsIn 50 = .ok (.iadd, 1) := by decide +kernel
theorem dX11_holdsIn_51 : decode cX11_holdsIn 51 = .ok (.istore_n 3, 1) := by decide +kernel
theorem dX11_holdsIn_52 : decode cX11_holdsIn 52 = .ok (.iinc 4 1, 3) := by decide +kernel
theorem dX11_holdsIn_55 : decode cX11_holdsIn 55 = .ok (.goto (-50), 3) := by decide +kernel
theorem dX11_holdsIn_58 : decode cX11_holdsIn 58 = .ok (.iload_n 3, 1) := by decide +kernel
theorem dX11_holdsIn_59 : decode cX11_holdsIn 59 = .ok (.ireturn, 1) := by decide +kernel
theorem dX11_worthOf_0 : decode cX11_worthOf 0 = .ok (.aload_n 0, 1) := by decide +kernel
theorem dX11_worthOf_1 : decode cX11_worthOf 1 = .ok (.iload_n 1, 1) := by decide +kernel
theorem dX11_worthOf_2 : decode cX11_worthOf 2 = .ok (.iconst 1, 1) := by decide +kernel
theorem dX11_worthOf_3 : decode cX11_worthOf 3 = .ok (.invokevirtual 201, 3) := by decide +kernel
theorem dX11_worthOf_6 : decode cX11_worthOf 6 = .ok (.istore_n 2, 1) := by decide +kernel
theorem dX11_worthOf_7 : decode cX11_worthOf 7 = .ok (.aload_n 0, 1) := by decide +kernel
theorem dX11_worthOf_8 : decode cX11_worthOf 8 = .ok (.iload_n 1, 1) := by decide +kernel
theorem dX11_worthOf_9 : decode cX11_worthOf 9 = .ok (.iconst 0, 1) := by decide +kernel
theorem dX11_worthOf_10 : decode cX11_worthOf 10 = .ok (.invokevirtual 201, 3) := by decide +kernel
theorem dX11_worthOf_13 : decode cX11_worthOf 13 = .ok (.istore_n 3, 1) := by decide +kernel
theorem dX11_worthOf_14 : decode cX11_worthOf 14 = .ok (.iload_n 2, 1) := by decide +kernel
theorem dX11_worthOf_15 : decode cX11_worthOf 15 = .ok (.aload_n 0, 1) := by decide +kernel
theorem dX11_worthOf_16 : decode cX11_worthOf 16 = .ok (.iconst 0, 1) := by decide +kernel
theorem dX11_worthOf_17 : decode cX11_worthOf 17 = .ok (.invokevirtual 204, 3) := by decide +kernel
theorem dX11_worthOf_20 : decode cX11_worthOf 20 = .ok (.aload_n 0, 1) := by decide +kernel
theorem dX11_worthOf_21 : decode cX11_worthOf 21 = .ok (.iconst 1, 1) := by decide +kernel
theorem dX11_worthOf_22 : decode cX11_worthOf 22 = .ok (.invokevirtual 204, 3) := by decide +kernel
theorem dX11_worthOf_25 : decode cX11_worthOf 25 = .ok (.iadd, 1) := by decide +kernel
theorem dX11_worthOf_26 : decode cX11_worthOf 26 = .ok (.imul, 1) := by decide +kernel
theorem dX11_worthOf_27 : decode cX11_worthOf 27 = .ok (.iload_n 2, 1) := by decide +kernel
theorem dX11_worthOf_28 : decode cX11_worthOf 28 = .ok (.iload_n 3, 1) := by decide +kernel
theorem dX11_worthOf_29 : decode cX11_worthOf 29 = .ok (.iadd, 1) := by decide +kernel
theorem dX11_worthOf_30 : decode cX11_worthOf 30 = .ok (.aload_n 0, 1) := by decide +kernel
theorem dX11_worthOf_31 : decode cX11_worthOf 31 = .ok (.iconst 1, 1) := by decide +kernel
theorem dX11_worthOf_32 : decode cX11_worthOf 32 = .ok (.invokevirtual 204, 3) := by decide +kernel
theorem dX11_worthOf_35 : decode cX11_worthOf 35 = .ok (.imul, 1) := by decide +kernel
theorem dX11_worthOf_36 : decode cX11_worthOf 36 = .ok (.isub, 1) := by decide +kernel
theorem dX11_worthOf_37 : decode cX11_worthOf 37 = .ok (.ireturn, 1) := by decide +kernel
theorem dX11_worth_0 : decode cX11_worth 0 = .ok (.aload_n 0, 1) := by decide +kernel
theorem dX11_worth_1 : decode cX11_worth 1 = .ok (.iconst 0, 1) := by decide +kernel
theorem dX11_worth_2 : decode cX11_worth 2 = .ok (.putfield 52, 3) := by decide +kernel
theorem dX11_worth_5 : decode cX11_worth 5 = .ok (.aload_n 0, 1) := by decide +kernel
theorem dX11_worth_6 : decode cX11_worth 6 = .ok (.iload_n 1, 1) := by decide +kernel
theorem dX11_worth_7 : decode cX11_worth 7 = .ok (.invokevirtual 195, 3) := by decide +kernel
theorem dX11_worth_10 : decode cX11_worth 10 = .ok (.ifCond .eq 15, 3) := by decide +kernel
theorem dX11_worth_13 : decode cX11_worth 13 = .ok (.iload_n 2, 1) := by decide +kernel
theorem dX11_worth_14 : decode cX11_worth 14 = .ok (.i2l, 1) := by decide +kernel
theorem dX11_worth_15 : decode cX11_worth 15 = .ok (.lconst 0, 1) := by decide +kernel
theorem dX11_worth_16 : decode cX11_worth 16 = .ok (.ldc2_w 207, 3) := by decide +kernel
theorem dX11_worth_19 : decode cX11_worth 19 = .ok (.invokestatic 62, 3) := by decide +kernel
theorem dX11_worth_22 : decode cX11_worth 22 = .ok (.ifCond .ne 6, 3) := by decide +kernel
theorem dX11_worth_25 : decode cX11_worth 25 = .ok (.ldc 72, 2) := by decide +kernel
theorem dX11_worth_27 : decode cX11_worth 27 = .ok (.ireturn, 1) := by decide +kernel
theorem dX11_worth_28 : decode cX11_worth 28 = .ok (.iload_n 2, 1) := by decide +kernel
theorem dX11_worth_29 : decode cX11_worth 29 = .ok (.ifCond .ne 26, 3) := by decide +kernel
theorem dX11_worth_32 : decode cX11_worth 32 = .ok (.aload_n 0, 1) := by decide +kernel
theorem dX11_worth_33 : decode cX11_worth 33 = .ok (.iload_n 1, 1) := by decide +kernel
theorem dX11_worth_34 : decode cX11_worth 34 = .ok (.iconst 0, 1) := by decide +kernel
theorem dX11_worth_35 : decode cX11_worth 35 = .ok (.invokevirtual 201, 3) := by decide +kernel
theorem dX11_worth_38 : decode cX11_worth 38 = .ok (.aload_n 0, 1) := by decide +kernel
theorem dX11_worth_39 : decode cX11_worth 39 = .ok (.iload_n 1, 1) := by decide +kernel
theorem dX11_worth_40 : decode cX11_worth 40 = .ok (.iconst 1, 1) := by decide +kernel
theorem dX11_worth_41 : decode cX11_worth 41 = .ok (.invokevirtual 201, 3) := by decide +kernel
theorem dX11_worth_44 : decode cX11_worth 44 = .ok (.iadd, 1) := by decide +kernel
theorem dX11_worth_45 : decode cX11_worth 45 = .ok (.aload_n 0, 1) := by decide +kernel
theorem dX11_worth_46 : decode cX11_worth 46 = .ok (.iload_n 1, 1) := by decide +kernel
theorem dX11_worth_47 : decode cX11_worth 47 = .ok (.iconst 2, 1) := by decide +kernel
theorem dX11_worth_48 : decode cX11_worth 48 = .ok (.invokevirtual 201, 3) := by decide +kernel
theorem dX11_worth_51 : decode cX11_worth 51 = .ok (.iadd, 1) := by decide +kernel
theorem dX11_worth_52 : decode cX11_worth 52 = .ok (.goto 36, 3) := by decide +kernel
theorem dX11_worth_55 : decode cX11_worth 55 = .ok (.iload_n 2, 1) := by decide +kernel
theorem dX11_worth_56 : decode cX11_worth 56 = .ok (.iconst 1, 1) := by decide +kernel
theorem dX11_worth_57 : decode cX11_worth 57 = .ok (.if_icmp .ne 12, 3) := by decide +kernel
theorem dX11_worth_60 : decode cX11_worth 60 = .ok (.aload_n 0, 1) := by decide +kernel
theorem dX11_worth_61 : decode cX11_worth 61 = .ok (.iload_n 1, 1) := by decide +kernel
theorem dX11_worth_62 : decode cX11_worth 62 = .ok (.iconst 1, 1) := by decide +kernel
theorem dX11_worth_63 : decode cX11_worth 63 = .ok (.invokevirtual 201, 3) := by decide +kernel
theorem dX11_worth_66 : decode cX11_worth 66 = .ok (.goto 22, 3) := by decide +kernel
theorem dX11_worth_69 : decode cX11_worth 69 = .ok (.iload_n 2, 1) := by decide +kernel
theorem dX11_worth_70 : decode cX11_worth 70 = .ok (.iconst 2, 1) := by decide +kernel
theorem dX11_worth_71 : decode cX11_worth 71 = .ok (.if_icmp .ne 12, 3) := by decide +kernel
theorem dX11_worth_74 : decode cX11_worth 74 = .ok (.aload_n 0, 1) := by decide +kernel
theorem dX11_worth_75 : decode cX11_worth 75 = .ok (.iload_n 1, 1) := by decide +kernel
theorem dX11_worth_76 : decode cX11_worth 76 = .ok (.iconst 0, 1) := by decide +kernel
theorem dX11_worth_77 : decode cX11_worth 77 = .ok (.invokevirtual 201, 3) := by decide +kernel
theorem dX11_worth_80 : decode cX11_worth 80 = .ok (.goto 8, 3) := by decide +kernel
theorem dX11_worth_83 : decode cX11_worth 83 = .ok (.aload_n 0, 1) := by decide +kernel
theorem dX11_worth_84 : decode cX11_worth 84 = .ok (.iload_n 1, 1) := by decide +kernel
theorem dX11_worth_85 : decode cX11_worth 85 = .ok (.invokevirtual 209, 3) := by decide +kernel
theorem dX11_worth_88 : decode cX11_worth 88 = .ok (.ireturn, 1) := by decide +kernel
theorem dX11_best_0 : decode cX11_best 0 = .ok (.aload_n 0, 1) := by decide +kernel
theorem dX11_best_1 : decode cX11_best 1 = .ok (.iconst 0, 1) := by decide +kernel
theorem dX11_best_2 : decode cX11_best 2 = .ok (.putfield 52, 3) := by decide +kernel
theorem dX11_best_5 : decode cX11_best 5 = .ok (.ldc 100, 2) := by decide +kernel
theorem dX11_best_7 : decode cX11_best 7 = .ok (.istore_n 1, 1) := by decide +kernel
theorem dX11_best_8 : decode cX11_best 8 = .ok (.iconst 0, 1) := by decide +kernel
theorem dX11_best_9 : decode cX11_best 9 = .ok (.istore_n 2, 1) := by decide +kernel
theorem dX11_best_10 : decode cX11_best 10 = .ok (.iconst 0, 1) := by decide +kernel
theorem dX11_best_11 : decode cX11_best 11 = .ok (.istore_n 3, 1) := by decide +kernel
theorem dX11_best_12 : decode cX11_best 12 = .ok (.iload_n 3, 1) := by decide +kernel
theorem dX11_best_13 : decode cX11_best 13 = .ok (.aload_n 0, 1) := by decide +kernel
theorem dX11_best_14 : decode cX11_best 14 = .ok (.getfield 189, 3) := by decide +kernel
theorem dX11_best_17 : decode cX11_best 17 = .ok (.if_icmp .ge 33, 3) := by decide +kernel
theorem dX11_best_20 : decode cX11_best 20 = .ok (.aload_n 0, 1) := by decide +kernel
theorem dX11_best_21 : decode cX11_best 21 = .ok (.iload_n 3, 1) := by decide +kernel
theorem dX11_best_22 : decode cX11_best 22 = .ok (.invokevirtual 209, 3) := by decide +kernel
theorem dX11_best_25 : decode cX11_best 25 = .ok (.istore 4, 2) := by decide +kernel
theorem dX11_best_27 : decode cX11_best 27 = .ok (.iload_n 1, 1) := by decide +kernel
theorem dX11_best_28 : decode cX11_best 28 = .ok (.ldc 100, 2) := by decide +kernel
theorem dX11_best_30 : decode cX11_best 30 = .ok (.if_icmp .eq 9, 3) := by decide +kernel
theorem dX11_best_33 : decode cX11_best 33 = .ok (.iload 4, 2) := by decide +kernel
theorem dX11_best_35 : decode cX11_best 35 = .ok (.iload_n 2, 1) := by decide +kernel
theorem dX11_best_36 : decode cX11_best 36 = .ok (.if_icmp .le 8, 3) := by decide +kernel
theorem dX11_best_39 : decode cX11_best 39 = .ok (.iload_n 3, 1) := by decide +kernel
theorem dX11_best_40 : decode cX11_best 40 = .ok (.istore_n 1, 1) := by decide +kernel
theorem dX11_best_41 : decode cX11_best 41 = .ok (.iload 4, 2) := by decide +kernel
theorem dX11_best_43 : decode cX11_best 43 = .ok (.istore_n 2, 1) := by decide +kernel
theorem dX11_best_44 : decode cX11_best 44 = .ok (.iinc 3 1, 3) := by decide +kernel
theorem dX11_best_47 : decode cX11_best 47 = .ok (.goto (-35), 3) := by decide +kernel
theorem dX11_best_50 : decode cX11_best 50 = .ok (.iload_n 1, 1) := by decide +kernel
theorem dX11_best_51 : decode cX11_best 51 = .ok (.ireturn, 1) := by decide +kernel
theorem dX11_kindOf_0 : decode cX11_kindOf 0 = .ok (.iload_n 0, 1) := by decide +kernel
theorem dX11_kindOf_1 : decode cX11_kindOf 1 = .ok (.iconst 1, 1) := by decide +kernel
theorem dX11_kindOf_2 : decode cX11_kindOf 2 = .ok (.iand, 1) := by decide +kernel
theorem dX11_kindOf_3 : decode cX11_kindOf 3 = .ok (.iload_n 0, 1) := by decide +kernel
theorem dX11_kindOf_4 : decode cX11_kindOf 4 = .ok (.iconst 3, 1) := by decide +kernel
theorem dX11_kindOf_5 : decode cX11_kindOf 5 = .ok (.ishr, 1) := by decide +kernel
theorem dX11_kindOf_6 : decode cX11_kindOf 6 = .ok (.iconst 1, 1) := by decide +kernel
theorem dX11_kindOf_7 : decode cX11_kindOf 7 = .ok (.iand, 1) := by decide +kernel
theorem dX11_kindOf_8 : decode cX11_kindOf 8 = .ok (.if_icmp .ne 20, 3) := by decide +kernel
theorem dX11_kindOf_11 : decode cX11_kindOf 11 = .ok (.iload_n 0, 1) := by decide +kernel
theorem dX11_kindOf_12 : decode cX11_kindOf 12 = .ok (.iconst 1, 1) := by decide +kernel
theorem dX11_kindOf_13 : decode cX11_kindOf 13 = .ok (.ishr, 1) := by decide +kernel
theorem dX11_kindOf_14 : decode cX11_kindOf 14 = .ok (.iconst 1, 1) := by decide +kernel
theorem dX11_kindOf_15 : decode cX11_kindOf 15 = .ok (.iand, 1) := by decide +kernel
theorem dX11_kindOf_16 : decode cX11_kindOf 16 = .ok (.iload_n 0, 1) := by decide +kernel
theorem dX11_kindOf_17 : decode cX11_kindOf 17 = .ok (.iconst 2, 1) := by decide +kernel
theorem dX11_kindOf_18 : decode cX11_kindOf 18 = .ok (.ishr, 1) := by decide +kernel
theorem dX11_kindOf_19 : decode cX11_kindOf 19 = .ok (.iconst 1, 1) := by decide +kernel
theorem dX11_kindOf_20 : decode cX11_kindOf 20 = .ok (.iand, 1) := by decide +kernel
theorem dX11_kindOf_21 : decode cX11_kindOf 21 = .ok (.if_icmp .ne 7, 3) := by decide +kernel
theorem dX11_kindOf_24 : decode cX11_kindOf 24 = .ok (.iconst 1, 1) := by decide +kernel
theorem dX11_kindOf_25 : decode cX11_kindOf 25 = .ok (.goto 4, 3) := by decide +kernel
theorem dX11_kindOf_28 : decode cX11_kindOf 28 = .ok (.iconst 0, 1) := by decide +kernel
theorem dX11_kindOf_29 : decode cX11_kindOf 29 = .ok (.istore_n 1, 1) := by decide +kernel
theorem dX11_kindOf_30 : decode cX11_kindOf 30 = .ok (.iload_n 1, 1) := by decide +kernel
theorem dX11_kindOf_31 : decode cX11_kindOf 31 = .ok (.ifCond .eq 7, 3) := by decide +kernel
theorem dX11_kindOf_34 : decode cX11_kindOf 34 = .ok (.iconst 2, 1) := by decide +kernel
theorem dX11_kindOf_35 : decode cX11_kindOf 35 = .ok (.goto 17, 3) := by decide +kernel
theorem dX11_kindOf_38 : decode cX11_kindOf 38 = .ok (.iload_n 0, 1) := by decide +kernel
theorem dX11_kindOf_39 : decode cX11_kindOf 39 = .ok (.invokestatic 102, 3) := by decide +kernel
theorem dX11_kindOf_42 : decode cX11_kindOf 42 = .ok (.iconst 2, 1) := by decide +kernel
theorem dX11_kindOf_43 : decode cX11_kindOf 43 = .ok (.irem, 1) := by decide +kernel
theorem dX11_kindOf_44 : decode cX11_kindOf 44 = .ok (.ifCond .ne 7, 3) := by decide +kernel
theorem dX11_kindOf_47 : decode cX11_kindOf 47 = .ok (.iconst 1, 1) := by decide +kernel
theorem dX11_kindOf_48 : decode cX11_kindOf 48 = .ok (.goto 4, 3) := by decide +kernel
theorem dX11_kindOf_51 : decode cX11_kindOf 51 = .ok (.iconst 3, 1) := by decide +kernel
theorem dX11_kindOf_52 : decode cX11_kindOf 52 = .ok (.ireturn, 1) := by decide +kernel
theorem dX11_kind_0 : decode cX11_kind 0 = .ok (.aload_n 0, 1) := by decide +kernel
theorem dX11_kind_1 : decode cX11_kind 1 = .ok (.iconst 0, 1) := by decide +kernel
theorem dX11_kind_2 : decode cX11_kind 2 = .ok (.putfield 52, 3) := by decide +kernel
theorem dX11_kind_5 : decode cX11_kind 5 = .ok (.iload_n 1, 1) := by decide +kernel
theorem dX11_kind_6 : decode cX11_kind 6 = .ok (.invokestatic 90, 3) := by decide +kernel
theorem dX11_kind_9 : decode cX11_kind 9 = .ok (.ifCond .eq 10, 3) := by decide +kernel
theorem dX11_kind_12 : decode cX11_kind 12 = .ok (.iload_n 1, 1) := by decide +kernel
theorem dX11_kind_13 : decode cX11_kind 13 = .ok (.invokestatic 212, 3) := by decide +kernel
theorem dX11_kind_16 : decode cX11_kind 16 = .ok (.goto 5, 3) := by decide +kernel
theorem dX11_kind_19 : decode cX11_kind 19 = .ok (.ldc 72, 2) := by decide +kernel
theorem dX11_kind_21 : decode cX11_kind 21 = .ok (.ireturn, 1) := by decide +kernel
theorem dX11_as_0 : decode cX11_as 0 = .ok (.aload_n 0, 1) := by decide +kernel
theorem dX11_as_1 : decode cX11_as 1 = .ok (.iconst 0, 1) := by decide +kernel
theorem dX11_as_2 : decode cX11_as 2 = .ok (.putfield 52, 3) := by decide +kernel
theorem dX11_as_5 : decode cX11_as 5 = .ok (.iload_n 1, 1) := by decide +kernel
theorem dX11_as_6 : decode cX11_as 6 = .ok (.invokestatic 90, 3) := by decide +kernel
theorem dX11_as_9 : decode cX11_as 9 = .ok (.ifCond .eq 15, 3) := by decide +kernel
theorem dX11_as_12 : decode cX11_as 12 = .ok (.iload_n 2, 1) := by decide +kernel
theorem dX11_as_13 : decode cX11_as 13 = .ok (.i2l, 1) := by decide +kernel
theorem dX11_as_14 : decode cX11_as 14 = .ok (.lconst 0, 1) := by decide +kernel
theorem dX11_as_15 : decode cX11_as 15 = .ok (.ldc2_w 207, 3) := by decide +kernel
theorem dX11_as_18 : decode cX11_as 18 = .ok (.invokestatic 62, 3) := by decide +kernel
theorem dX11_as_21 : decode cX11_as 21 = .ok (.ifCond .ne 6, 3) := by decide +kernel
theorem dX11_as_24 : decode cX11_as 24 = .ok (.ldc 72, 2) := by decide +kernel
theorem dX11_as_26 : decode cX11_as 26 = .ok (.ireturn, 1) := by decide +kernel
theorem dX11_as_27 : decode cX11_as 27 = .ok (.aload_n 0, 1) := by decide +kernel
theorem dX11_as_28 : decode cX11_as 28 = .ok (.iconst 0, 1) := by decide +kernel
theorem dX11_as_29 : decode cX11_as 29 = .ok (.putfield 56, 3) := by decide +kernel
theorem dX11_as_32 : decode cX11_as 32 = .ok (.iload_n 1, 1) := by decide +kernel
theorem dX11_as_33 : decode cX11_as 33 = .ok (.invokestatic 212, 3) := by decide +kernel
theorem dX11_as_36 : decode cX11_as 36 = .ok (.istore_n 3, 1) := by decide +kernel
theorem dX11_as_37 : decode cX11_as 37 = .ok (.iload_n 2, 1) := by decide +kernel
theorem dX11_as_38 : decode cX11_as 38 = .ok (.ifCond .eq 18, 3) := by decide +kernel
theorem dX11_as_41 : decode cX11_as 41 = .ok (.iload_n 3, 1) := by decide +kernel
theorem dX11_as_42 : decode cX11_as 42 = .ok (.iload_n 2, 1) := by decide +kernel
theorem dX11_as_43 : decode cX11_as 43 = .ok (.if_icmp .eq 13, 3) := by decide +kernel
theorem dX11_as_46 : decode cX11_as 46 = .ok (.iload_n 2, 1) := by decide +kernel
theorem dX11_as_47 : decode cX11_as 47 = .ok (.iconst 1, 1) := by decide +kernel
theorem dX11_as_48 : decode cX11_as 48 = .ok (.if_icmp .ne 18, 3) := by decide +kernel
theorem dX11_as_51 : decode cX11_as 51 = .ok (.iload_n 3, 1) := by decide +kernel
theorem dX11_as_52 : decode cX11_as 52 = .ok (.iconst 2, 1) := by decide +kernel
theorem dX11_as_53 : decode cX11_as 53 = .ok (.if_icmp .ne 13, 3) := by decide +kernel
theorem dX11_as_56 : decode cX11_as 56 = .ok (.bipush 8, 2) := by decide +kernel
theorem dX11_as_58 : decode cX11_as 58 = .ok (.iload_n 1, 1) := by decide +kernel
theorem dX11_as_59 : decode cX11_as 59 = .ok (.invokestatic 102, 3) := by decide +kernel
theorem dX11_as_62 : decode cX11_as 62 = .ok (.isub, 1) := by decide +kernel
theorem dX11_as_63 : decode cX11_as 63 = .ok (.goto 8, 3) := by decide +kernel
theorem dX11_as_66 : decode cX11_as 66 = .ok (.aload_n 0, 1) := by decide +kernel
theorem dX11_as_67 : decode cX11_as 67 = .ok (.iconst 3, 1) := by decide +kernel
theorem dX11_as_68 : decode cX11_as 68 = .ok (.invokevirtual 73, 3) := by decide +kernel
theorem dX11_as_71 : decode cX11_as 71 = .ok (.ireturn, 1) := by decide +kernel
theorem dX11_began_0 : decode cX11_began 0 = .ok (.aload_n 0, 1) := by decide +kernel
theorem dX11_began_1 : decode cX11_began 1 = .ok (.getfield 215, 3) := by decide +kernel
theorem dX11_began_4 : decode cX11_began 4 = .ok (.bipush 16, 2) := by decide +kernel
theorem dX11_began_6 : decode cX11_began 6 = .ok (.if_icmp .ge 23, 3) := by decide +kernel
theorem dX11_began_9 : decode cX11_began 9 = .ok (.aload_n 0, 1) := by decide +kernel
theorem dX11_began_10 : decode cX11_began 10 = .ok (.getfield 49, 3) := by decide +kernel
theorem dX11_began_13 : decode cX11_began 13 = .ok (.aload_n 0, 1) := by decide +kernel
theorem dX11_began_14 : decode cX11_began 14 = .ok (.getfield 215, 3) := by decide +kernel
theorem dX11_began_17 : decode cX11_began 17 = .ok (.iload_n 1, 1) := by decide +kernel
theorem dX11_began_18 : decode cX11_began 18 = .ok (.iastore, 1) := by decide +kernel
theorem dX11_began_19 : decode cX11_began 19 = .ok (.aload_n 0, 1) := by decide +kernel
theorem dX11_began_20 : decode cX11_began 20 = .ok (.dup, 1) := by decide +kernel
theorem dX11_began_21 : decode cX11_began 21 = .ok (.getfield 215, 3) := by decide +kernel
theorem dX11_began_24 : decode cX11_began 24 = .ok (.iconst 1, 1) := by decide +kernel
theorem dX11_began_25 : decode cX11_began 25 = .ok (.iadd, 1) := by decide +kernel
theorem dX11_began_26 : decode cX11_began 26 = .ok (.putfield 215, 3) := by decide +kernel
theorem dX11_began_29 : decode cX11_began 29 = .ok (.return_, 1) := by decide +kernel
theorem dX11_oddSize_0 : decode cX11_oddSize 0 = .ok (.aload_n 0, 1) := by decide +kernel
theorem dX11_oddSize_1 : decode cX11_oddSize 1 = .ok (.bipush 13, 2) := by decide +kernel
theorem dX11_oddSize_3 : decode cX11_oddSize 3 = .ok (.invokevirtual 218, 3) := by decide +kernel
theorem dX11_oddSize_6 : decode cX11_oddSize 6 = .ok (.aload_n 0, 1) := by decide +kernel
theorem dX11_oddSize_7 : decode cX11_oddSize 7 = .ok (.bipush 10, 2) := by decide +kernel
theorem dX11_oddSize_9 : decode cX11_oddSize 9 = .ok (.invokevirtual 218, 3) := by decide +kernel
theorem dX11_oddSize_12 : decode cX11_oddSize 12 = .ok (.iconst 2, 1) := by decide +kernel
theorem dX11_oddSize_13 : decode cX11_oddSize 13 = .ok (.bipush 8, 2) := by decide +kernel
theorem dX11_oddSize_15 : decode cX11_oddSize 15 = .ok (.iload_n 1, 1) := by decide +kernel
theorem dX11_oddSize_16 : decode cX11_oddSize 16 = .ok (.invokestatic 102, 3) := by decide +kernel
theorem dX11_oddSize_19 : decode cX11_oddSize 19 = .ok (.isub, 1) := by decide +kernel
theorem dX11_oddSize_20 : decode cX11_oddSize 20 = .ok (.imul, 1) := by decide +kernel
theorem dX11_oddSize_21 : decode cX11_oddSize 21 = .ok (.ireturn, 1) := by decide +kernel
theorem dX11_marked_0 : decode cX11_marked 0 = .ok (.iload_n 1, 1) := by decide +kernel
theorem dX11_marked_1 : decode cX11_marked 1 = .ok (.invokestatic 212, 3) := by decide +kernel
theorem dX11_marked_4 : decode cX11_marked 4 = .ok (.istore_n 2, 1) := by decide +kernel
theorem dX11_marked_5 : decode cX11_marked 5 = .ok (.iload_n 2, 1) := by decide +kernel
theorem dX11_marked_6 : decode cX11_marked 6 = .ok (.iconst 2, 1) := by decide +kernel
theorem dX11_marked_7 : decode cX11_marked 7 = .ok (.if_icmp .ne 9, 3) := by decide +kernel
theorem dX11_marked_10 : decode cX11_marked 10 = .ok (.aload_n 0, 1) := by decide +kernel
theorem dX11_marked_11 : decode cX11_marked 11 = .ok (.bipush 21, 2) := by decide +kernel
theorem dX11_marked_13 : decode cX11_marked 13 = .ok (.invokevirtual 218, 3) := by decide +kernel
theorem dX11_marked_16 : decode cX11_marked 16 = .ok (.iload_n 2, 1) := by decide +kernel
theorem dX11_marked_17 : decode cX11_marked 17 = .ok (.iconst 3, 1) := by decide +kernel
theorem dX11_marked_18 : decode cX11_marked 18 = .ok (.if_icmp .ne 9, 3) := by decide +kernel
theorem dX11_marked_21 : decode cX11_marked 21 = .ok (.aload_n 0, 1) := by decide +kernel
theorem dX11_marked_22 : decode cX11_marked 22 = .ok (.bipush 22, 2) := by decide +kernel
theorem dX11_marked_24 : decode cX11_marked 24 = .ok (.invokevirtual 218, 3) := by decide +kernel
theorem dX11_marked_27 : decode cX11_marked 27 = .ok (.aload_n 0, 1) := by decide +kernel
theorem dX11_marked_28 : decode cX11_marked 28 = .ok (.bipush 20, 2) := by decide +kernel
theorem dX11_marked_30 : decode cX11_marked 30 = .ok (.invokevirtual 218, 3) := by decide +kernel
theorem dX11_marked_33 : decode cX11_marked 33 = .ok (.iload_n 1, 1) := by decide +kernel
theorem dX11_marked_34 : decode cX11_marked 34 = .ok (.iload_n 2, 1) := by decide +kernel
theorem dX11_marked_35 : decode cX11_marked 35 = .ok (.iconst 2, 1) := by decide +kernel
theorem dX11_marked_36 : decode cX11_marked 36 = .ok (.if_icmp .ne 8, 3) := by decide +kernel
theorem dX11_marked_39 : decode cX11_marked 39 = .ok (.bipush 100, 2) := by decide +kernel
theorem dX11_marked_41 : decode cX11_marked 41 = .ok (.goto 17, 3) := by decide +kernel
theorem dX11_marked_44 : decode cX11_marked 44 = .ok (.iload_n 2, 1) := by decide +kernel
theorem dX11_marked_45 : decode cX11_marked 45 = .ok (.iconst 3, 1) := by decide +kernel
theorem dX11_marked_46 : decode cX11_marked 46 = .ok (.if_icmp .ne 11, 3) := by decide +kernel
theorem dX11_marked_49 : decode cX11_marked 49 = .ok (.aload_n 0, 1) := by decide +kernel
theorem dX11_marked_50 : decode cX11_marked 50 = .ok (.iload_n 1, 1) := by decide +kernel
theorem dX11_marked_51 : decode cX11_marked 51 = .ok (.invokevirtual 221, 3) := by decide +kernel
theorem dX11_marked_54 : decode cX11_marked 54 = .ok (.goto 4, 3) := by decide +kernel
theorem dX11_marked_57 : decode cX11_marked 57 = .ok (.iconst 0, 1) := by decide +kernel
theorem dX11_marked_58 : decode cX11_marked 58 = .ok (.iadd, 1) := by decide +kernel
theorem dX11_marked_59 : decode cX11_marked 59 = .ok (.ireturn, 1) := by decide +kernel
theorem dX11_sized_0 : decode cX11_sized 0 = .ok (.iload_n 1, 1) := by decide +kernel
theorem dX11_sized_1 : decode cX11_sized 1 = .ok (.invokestatic 212, 3) := by decide +kernel
theorem dX11_sized_4 : decode cX11_sized 4 = .ok (.istore_n 2, 1) := by decide +kernel
theorem dX11_sized_5 : decode cX11_sized 5 = .ok (.iload_n 2, 1) := by decide +kernel
theorem dX11_sized_6 : decode cX11_sized 6 = .ok (.iconst 3, 1) := by decide +kernel
theorem dX11_sized_7 : decode cX11_sized 7 = .ok (.if_icmp .ne 9, 3) := by decide +kernel
theorem dX11_sized_10 : decode cX11_sized 10 = .ok (.aload_n 0, 1) := by decide +kernel
theorem dX11_sized_11 : decode cX11_sized 11 = .ok (.iload_n 1, 1) := by decide +kernel
theorem dX11_sized_12 : decode cX11_sized 12 = .ok (.invokevirtual 221, 3) := by decide +kernel
theorem dX11_sized_15 : decode cX11_sized 15 = .ok (.ireturn, 1) := by decide +kernel
theorem dX11_sized_16 : decode cX11_sized 16 = .ok (.iload_n 2, 1) := by decide +kernel
theorem dX11_sized_17 : decode cX11_sized 17 = .ok (.iconst 2, 1) := by decide +kernel
theorem dX11_sized_18 : decode cX11_sized 18 = .ok (.if_icmp .ne 9, 3) := by decide +kernel
theorem dX11_sized_21 : decode cX11_sized 21 = .ok (.aload_n 0, 1) := by decide +kernel
theorem dX11_sized_22 : decode cX11_sized 22 = .ok (.bipush 12, 2) := by decide +kernel
theorem dX11_sized_24 : decode cX11_sized 24 = .ok (.invokevirtual 218, 3) := by decide +kernel
theorem dX11_sized_27 : decode cX11_sized 27 = .ok (.aload_n 0, 1) := by decide +kernel
theorem dX11_sized_28 : decode cX11_sized 28 = .ok (.bipush 11, 2) := by decide +kernel
theorem dX11_sized_30 : decode cX11_sized 30 = .ok (.invokevirtual 218, 3) := by decide +kernel
theorem dX11_sized_33 : decode cX11_sized 33 = .ok (.aload_n 0, 1) := by decide +kernel
theorem dX11_sized_34 : decode cX11_sized 34 = .ok (.bipush 10, 2) := by decide +kernel
theorem dX11_sized_36 : decode cX11_sized 36 = .ok (.invokevirtual 218, 3) := by decide +kernel
theorem dX11_sized_39 : decode cX11_sized 39 = .ok (.bipush 8, 2) := by decide +kernel
theorem dX11_sized_41 : decode cX11_sized 41 = .ok (.iload_n 1, 1) := by decide +kernel
theorem dX11_sized_42 : decode cX11_sized 42 = .ok (.invokestatic 102, 3) := by decide +kernel
theorem dX11_sized_45 : decode cX11_sized 45 = .ok (.isub, 1) := by decide +kernel
theorem dX11_sized_46 : decode cX11_sized 46 = .ok (.iload_n 1, 1) := by decide +kernel
theorem dX11_sized_47 : decode cX11_sized 47 = .ok (.iadd, 1) := by decide +kernel
theorem dX11_sized_48 : decode cX11_sized 48 = .ok (.istore_n 3, 1) := by decide +kernel
theorem dX11_sized_49 : decode cX11_sized 49 = .ok (.iload_n 2, 1) := by decide +kernel
theorem dX11_sized_50 : decode cX11_sized 50 = .ok (.iconst 2, 1) := by decide +kernel
theorem dX11_sized_51 : decode cX11_sized 51 = .ok (.if_icmp .ne 13, 3) := by decide +kernel
theorem dX11_sized_54 : decode cX11_sized 54 = .ok (.iload_n 3, 1) := by decide +kernel
theorem dX11_sized_55 : decode cX11_sized 55 = .ok (.aload_n 0, 1) := by decide +kernel
theorem dX11_sized_56 : decode cX11_sized 56 = .ok (.iload_n 1, 1) := by decide +kernel
theorem dX11_sized_57 : decode cX11_sized 57 = .ok (.invokevirtual 224, 3) := by decide +kernel
theorem dX11_sized_60 : decode cX11_sized 60 = .ok (.iadd, 1) := by decide +kernel
theorem dX11_sized_61 : decode cX11_sized 61 = .ok (.goto 4, 3) := by decide +kernel
theorem dX11_sized_64 : decode cX11_sized 64 = .ok (.iload_n 3, 1) := by decide +kernel
theorem dX11_sized_65 : decode cX11_sized 65 = .ok (.ireturn, 1) := by decide +kernel
theorem dX11_ask_0 : decode cX11_ask 0 = .ok (.aload_n 0, 1) := by decide +kernel
theorem dX11_ask_1 : decode cX11_ask 1 = .ok (.iconst 0, 1) := by decide +kernel
theorem dX11_ask_2 : decode cX11_ask 2 = .ok (.putfield 52, 3) := by decide +kernel
theorem dX11_ask_5 : decode cX11_ask 5 = .ok (.iload_n 1, 1) := by decide +kernel
theorem dX11_ask_6 : decode cX11_ask 6 = .ok (.invokestatic 90, 3) := by decide +kernel
theorem dX11_ask_9 : decode cX11_ask 9 = .ok (.ifCond .eq 13, 3) := by decide +kernel
theorem dX11_ask_12 : decode cX11_ask 12 = .ok (.iload_n 2, 1) := by decide +kernel
theorem dX11_ask_13 : decode cX11_ask 13 = .ok (.i2l, 1) := by decide +kernel
theorem dX11_ask_14 : decode cX11_ask 14 = .ok (.lconst 0, 1) := by decide +kernel
theorem dX11_ask_15 : decode cX11_ask 15 = .ok (.lconst 1, 1) := by decide +kernel
theorem dX11_ask_16 : decode cX11_ask 16 = .ok (.invokestatic 62, 3) := by decide +kernel
theorem dX11_ask_19 : decode cX11_ask 19 = .ok (.ifCond .ne 6, 3) := by decide +kernel
theorem dX11_ask_22 : decode cX11_ask 22 = .ok (.ldc 72, 2) := by decide +kernel
theorem dX11_ask_24 : decode cX11_ask 24 = .ok (.ireturn, 1) := by decide +kernel
theorem dX11_ask_25 : decode cX11_ask 25 = .ok (.aload_n 0, 1) := by decide +kernel
theorem dX11_ask_26 : decode cX11_ask 26 = .ok (.iconst 0, 1) := by decide +kernel
theorem dX11_ask_27 : decode cX11_ask 27 = .ok (.putfield 215, 3) := by decide +kernel
theorem dX11_ask_30 : decode cX11_ask 30 = .ok (.iload_n 2, 1) := by decide +kernel
theorem dX11_ask_31 : decode cX11_ask 31 = .ok (.ifCond .ne 11, 3) := by decide +kernel
theorem dX11_ask_34 : decode cX11_ask 34 = .ok (.aload_n 0, 1) := by decide +kernel
theorem dX11_ask_35 : decode cX11_ask 35 = .ok (.iload_n 1, 1) := by decide +kernel
theorem dX11_ask_36 : decode cX11_ask 36 = .ok (.invokevirtual 227, 3) := by decide +kernel
theorem dX11_ask_39 : decode cX11_ask 39 = .ok (.goto 8, 3) := by decide +kernel
theorem dX11_ask_42 : decode cX11_ask 42 = .ok (.aload_n 0, 1) := by decide +kernel
theorem dX11_ask_43 : decode cX11_ask 43 = .ok (.iload_n 1, 1) := by decide +kernel
theorem dX11_ask_44 : decode cX11_ask 44 = .ok (.invokevirtual 224, 3) := by decide +kernel
theorem dX11_ask_47 : decode cX11_ask 47 = .ok (.ireturn, 1) := by decide +kernel
theorem dX11_trace_0 : decode cX11_trace 0 = .ok (.aload_n 0, 1) := by decide +kernel
theorem dX11_trace_1 : decode cX11_trace 1 = .ok (.iconst 0, 1) := by decide +kernel
theorem dX11_trace_2 : decode cX11_trace 2 = .ok (.putfield 52, 3) := by decide +kernel
theorem dX11_trace_5 : decode cX11_trace 5 = .ok (.iload_n 1, 1) := by decide +kernel
theorem dX11_trace_6 : decode cX11_trace 6 = .ok (.i2l, 1) := by decide +kernel
theorem dX11_trace_7 : decode cX11_trace 7 = .ok (.lconst 0, 1) := by decide +kernel
theorem dX11_trace_8 : decode cX11_trace 8 = .ok (.aload_n 0, 1) := by decide +kernel
theorem dX11_trace_9 : decode cX11_trace 9 = .ok (.getfield 215, 3) := by decide +kernel
theorem dX11_trace_12 : decode cX11_trace 12 = .ok (.iconst 1, 1) := by decide +kernel
theorem dX11_trace_13 : decode cX11_trace 13 = .ok (.isub, 1) := by decide +kernel
theorem dX11_trace_14 : decode cX11_trace 14 = .ok (.i2l, 1) := by decide +kernel
theorem dX11_trace_15 : decode cX11_trace 15 = .ok (.invokestatic 62, 3) := by decide +kernel
theorem dX11_trace_18 : decode cX11_trace 18 = .ok (.ifCond .eq 12, 3) := by decide +kernel
theorem dX11_trace_21 : decode cX11_trace 21 = .ok (.aload_n 0, 1) := by decide +kernel
theorem dX11_trace_22 : decode cX11_trace 22 = .ok (.getfield 49, 3) := by decide +kernel
theorem dX11_trace_25 : decode cX11_trace 25 = .ok (.iload_n 1, 1) := by decide +kernel
theorem dX11_trace_26 : decode cX11_trace 26 = .ok (.iaload, 1) := by decide +kernel
theorem dX11_trace_27 : decode cX11_trace 27 = .ok (.goto 5, 3) := by decide +kernel
theorem dX11_trace_30 : decode cX11_trace 30 = .ok (.ldc 100, 2) := by decide +kernel
theorem dX11_trace_32 : decode cX11_trace 32 = .ok (.ireturn, 1) := by decide +kernel
theorem dX11_count_0 : decode cX11_count 0 = .ok (.aload_n 0, 1) := by decide +kernel
theorem dX11_count_1 : decode cX11_count 1 = .ok (.iconst 0, 1) := by decide +kernel
theorem dX11_count_2 : decode cX11_count 2 = .ok (.putfield 52, 3) := by decide +kernel
theorem dX11_count_5 : decode cX11_count 5 = .ok (.iconst 0, 1) := by decide +kernel
theorem dX11_count_6 : decode cX11_count 6 = .ok (.istore_n 2, 1) := by decide +kernel
theorem dX11_count_7 : decode cX11_count 7 = .ok (.iload_n 1, 1) := by decide +kernel
theorem dX11_count_8 : decode cX11_count 8 = .ok (.tableswitch 115 0 6 #[44, 77, 82, 87, 99, 105, 110], 44) := by decide +kernel
theorem dX11_count_52 : decode cX11_count 52 = .ok (.iconst 0, 1) := by decide +kernel
theorem dX11_count_53 : decode cX11_count 53 = .ok (.istore_n 3, 1) := by decide +kernel
theorem dX11_count_54 : decode cX11_count 54 = .ok (.iload_n 3, 1) := by decide +kernel
theorem dX11_count_55 : decode cX11_count 55 = .ok (.bipush 8, 2) := by decide +kernel
theorem dX11_count_57 : decode cX11_count 57 = .ok (.if_icmp .ge 26, 3) := by decide +kernel
theorem dX11_count_60 : decode cX11_count 60 = .ok (.iload_n 2, 1) := by decide +kernel
theorem dX11_count_61 : decode cX11_count 61 = .ok (.aload_n 0, 1) := by decide +kernel
theorem dX11_count_62 : decode cX11_count 62 = .ok (.getfield 7, 3) := by decide +kernel
theorem dX11_count_65 : decode cX11_count 65 = .ok (.iload_n 3, 1) := by decide +kernel
theorem dX11_count_66 : decode cX11_count 66 = .ok (.iaload, 1) := by decide +kernel
theorem dX11_count_67 : decode cX11_count 67 = .ok (.ifCond .lt 7, 3) := by decide +kernel
theorem dX11_count_70 : decode cX11_count 70 = .ok (.iconst 1, 1) := by decide +kernel
theorem dX11_count_71 : decode cX11_count 71 = .ok (.goto 4, 3) := by decide +kernel
theorem dX11_count_74 : decode cX11_count 74 = .ok (.iconst 0, 1) := by decide +kernel
theorem dX11_count_75 : decode cX11_count 75 = .ok (.iadd, 1) := by decide +kernel
theorem dX11_count_76 : decode cX11_count 76 = .ok (.istore_n 2, 1) := by decide +kernel
theorem dX11_count_77 : decode cX11_count 77 = .ok (.iinc 3 1, 3) := by decide +kernel
theorem dX11_count_80 : decode cX11_count 80 = .ok (.goto (-26), 3) := by decide +kernel
theorem dX11_count_83 : decode cX11_count 83 = .ok (.iload_n 2, 1) := by decide +kernel
theorem dX11_count_84 : decode cX11_count 84 = .ok (.ireturn, 1) := by decide +kernel
theorem dX11_count_85 : decode cX11_count 85 = .ok (.aload_n 0, 1) := by decide +kernel
theorem dX11_count_86 : decode cX11_count 86 = .ok (.getfield 189, 3) := by decide +kernel
theorem dX11_count_89 : decode cX11_count 89 = .ok (.ireturn, 1) := by decide +kernel
theorem dX11_count_90 : decode cX11_count 90 = .ok (.aload_n 0, 1) := by decide +kernel
theorem dX11_count_91 : decode cX11_count 91 = .ok (.getfield 198, 3) := by decide +kernel
theorem dX11_count_94 : decode cX11_count 94 = .ok (.ireturn, 1) := by decide +kernel
theorem dX11_count_95 : decode cX11_count 95 = .ok (.aload_n 0, 1) := by decide +kernel
theorem dX11_count_96 : decode cX11_count 96 = .ok (.iconst 0, 1) := by decide +kernel
theorem dX11_count_97 : decode cX11_count 97 = .ok (.invokevirtual 204, 3) := by decide +kernel
theorem dX11_count_100 : decode cX11_count 100 = .ok (.aload_n 0, 1) := by decide +kernel
theorem dX11_count_101 : decode cX11_count 101 = .ok (.iconst 1, 1) := by decide +kernel
theorem dX11_count_102 : decode cX11_count 102 = .ok (.invokevirtual 204, 3) := by decide +kernel
theorem dX11_count_105 : decode cX11_count 105 = .ok (.iadd, 1) := by decide +kernel
theorem dX11_count_106 : decode cX11_count 106 = .ok (.ireturn, 1) := by decide +kernel
theorem dX11_count_107 : decode cX11_count 107 = .ok (.aload_n 0, 1) := by decide +kernel
theorem dX11_count_108 : decode cX11_count 108 = .ok (.iconst 1, 1) := by decide +kernel
theorem dX11_count_109 : decode cX11_count 109 = .ok (.invokevirtual 204, 3) := by decide +kernel
theorem dX11_count_112 : decode cX11_count 112 = .ok (.ireturn, 1) := by decide +kernel
theorem dX11_count_113 : decode cX11_count 113 = .ok (.aload_n 0, 1) := by decide +kernel
theorem dX11_count_114 : decode cX11_count 114 = .ok (.getfield 107, 3) := by decide +kernel
theorem dX11_count_117 : decode cX11_count 117 = .ok (.ireturn, 1) := by decide +kernel
theorem dX11_count_118 : decode cX11_count 118 = .ok (.aload_n 0, 1) := by decide +kernel
theorem dX11_count_119 : decode cX11_count 119 = .ok (.getfield 81, 3) := by decide +kernel
theorem dX11_count_122 : decode cX11_count 122 = .ok (.ireturn, 1) := by decide +kernel
theorem dX11_count_123 : decode cX11_count 123 = .ok (.ldc 72, 2) := by decide +kernel
theorem dX11_count_125 : decode cX11_count 125 = .ok (.ireturn, 1) := by decide +kernel
theorem dX11_status_0 : decode cX11_status 0 = .ok (.aload_n 0, 1) := by decide +kernel
theorem dX11_status_1 : decode cX11_status 1 = .ok (.iconst 0, 1) := by decide +kernel
theorem dX11_status_2 : decode cX11_status 2 = .ok (.putfield 52, 3) := by decide +kernel
theorem dX11_status_5 : decode cX11_status 5 = .ok (.aload_n 0, 1) := by decide +kernel
theorem dX11_status_6 : decode cX11_status 6 = .ok (.getfield 56, 3) := by decide +kernel
theorem dX11_status_9 : decode cX11_status 9 = .ok (.ireturn, 1) := by decide +kernel
theorem dJ6_bitCount_0f7a4_0 : decode cJ6_bitCount_0f7a4 0 = .ok (.iload_n 0, 1) := by decide +kernel
theorem dJ6_bitCount_0f7a4_1 : decode cJ6_bitCount_0f7a4 1 = .ok (.iload_n 0, 1) := by decide +kernel
theorem dJ6_bitCount_0f7a4_2 : decode cJ6_bitCount_0f7a4 2 = .ok (.iconst 1, 1) := by decide +kernel
theorem dJ6_bitCount_0f7a4_3 : decode cJ6_bitCount_0f7a4 3 = .ok (.iushr, 1) := by decide +kernel
theorem dJ6_bitCount_0f7a4_4 : decode cJ6_bitCount_0f7a4 4 = .ok (.ldc_w 265, 3) := by decide +kernel
theorem dJ6_bitCount_0f7a4_7 : decode cJ6_bitCount_0f7a4 7 = .ok (.iand, 1) := by decide +kernel
theorem dJ6_bitCount_0f7a4_8 : decode cJ6_bitCount_0f7a4 8 = .ok (.isub, 1) := by decide +kernel
theorem dJ6_bitCount_0f7a4_9 : decode cJ6_bitCount_0f7a4 9 = .ok (.istore_n 0, 1) := by decide +kernel
theorem dJ6_bitCount_0f7a4_10 : decode cJ6_bitCount_0f7a4 10 = .ok (.iload_n 0, 1) := by decide +kernel
theorem dJ6_bitCount_0f7a4_11 : decode cJ6_bitCount_0f7a4 11 = .ok (.ldc_w 266, 3) := by decide +kernel
theorem dJ6_bitCount_0f7a4_14 : decode cJ6_bitCount_0f7a4 14 = .ok (.iand, 1) := by decide +kernel
theorem dJ6_bitCount_0f7a4_15 : decode cJ6_bitCount_0f7a4 15 = .ok (.iload_n 0, 1) := by decide +kernel
theorem dJ6_bitCount_0f7a4_16 : decode cJ6_bitCount_0f7a4 16 = .ok (.iconst 2, 1) := by decide +kernel
theorem dJ6_bitCount_0f7a4_17 : decode cJ6_bitCount_0f7a4 17 = .ok (.iushr, 1) := by decide +kernel
theorem dJ6_bitCount_0f7a4_18 : decode cJ6_bitCount_0f7a4 18 = .ok (.ldc_w 266, 3) := by decide +kernel
theorem dJ6_bitCount_0f7a4_21 : decode cJ6_bitCount_0f7a4 21 = .ok (.iand, 1) := by decide +kernel
theorem dJ6_bitCount_0f7a4_22 : decode cJ6_bitCount_0f7a4 22 = .ok (.iadd, 1) := by decide +kernel
theorem dJ6_bitCount_0f7a4_23 : decode cJ6_bitCount_0f7a4 23 = .ok (.istore_n 0, 1) := by decide +kernel
theorem dJ6_bitCount_0f7a4_24 : decode cJ6_bitCount_0f7a4 24 = .ok (.iload_n 0, 1) := by decide +kernel
theorem dJ6_bitCount_0f7a4_25 : decode cJ6_bitCount_0f7a4 25 = .ok (.iload_n 0, 1) := by decide +kernel
theorem dJ6_bitCount_0f7a4_26 : decode cJ6_bitCount_0f7a4 26 = .ok (.iconst 4, 1) := by decide +kernel
theorem dJ6_bitCount_0f7a4_27 : decode cJ6_bitCount_0f7a4 27 = .ok (.iushr, 1) := by decide +kernel
theorem dJ6_bitCount_0f7a4_28 : decode cJ6_bitCount_0f7a4 28 = .ok (.iadd, 1) := by decide +kernel
theorem dJ6_bitCount_0f7a4_29 : decode cJ6_bitCount_0f7a4 29 = .ok (.ldc_w 267, 3) := by decide +kernel
theorem dJ6_bitCount_0f7a4_32 : decode cJ6_bitCount_0f7a4 32 = .ok (.iand, 1) := by decide +kernel
theorem dJ6_bitCount_0f7a4_33 : decode cJ6_bitCount_0f7a4 33 = .ok (.istore_n 0, 1) := by decide +kernel
theorem dJ6_bitCount_0f7a4_34 : decode cJ6_bitCount_0f7a4 34 = .ok (.iload_n 0, 1) := by decide +kernel
theorem dJ6_bitCount_0f7a4_35 : decode cJ6_bitCount_0f7a4 35 = .ok (.iload_n 0, 1) := by decide +kernel
theorem dJ6_bitCount_0f7a4_36 : decode cJ6_bitCount_0f7a4 36 = .ok (.bipush 8, 2) := by decide +kernel
theorem dJ6_bitCount_0f7a4_38 : decode cJ6_bitCount_0f7a4 38 = .ok (.iushr, 1) := by decide +kernel
theorem dJ6_bitCount_0f7a4_39 : decode cJ6_bitCount_0f7a4 39 = .ok (.iadd, 1) := by decide +kernel
theorem dJ6_bitCount_0f7a4_40 : decode cJ6_bitCount_0f7a4 40 = .ok (.istore_n 0, 1) := by decide +kernel
theorem dJ6_bitCount_0f7a4_41 : decode cJ6_bitCount_0f7a4 41 = .ok (.iload_n 0, 1) := by decide +kernel
theorem dJ6_bitCount_0f7a4_42 : decode cJ6_bitCount_0f7a4 42 = .ok (.iload_n 0, 1) := by decide +kernel
theorem dJ6_bitCount_0f7a4_43 : decode cJ6_bitCount_0f7a4 43 = .ok (.bipush 16, 2) := by decide +kernel
theorem dJ6_bitCount_0f7a4_45 : decode cJ6_bitCount_0f7a4 45 = .ok (.iushr, 1) := by decide +kernel
theorem dJ6_bitCount_0f7a4_46 : decode cJ6_bitCount_0f7a4 46 = .ok (.iadd, 1) := by decide +kernel
theorem dJ6_bitCount_0f7a4_47 : decode cJ6_bitCount_0f7a4 47 = .ok (.istore_n 0, 1) := by decide +kernel
theorem dJ6_bitCount_0f7a4_48 : decode cJ6_bitCount_0f7a4 48 = .ok (.iload_n 0, 1) := by decide +kernel
theorem dJ6_bitCount_0f7a4_49 : decode cJ6_bitCount_0f7a4 49 = .ok (.bipush 63, 2) := by decide +kernel
theorem dJ6_bitCount_0f7a4_51 : decode cJ6_bitCount_0f7a4 51 = .ok (.iand, 1) := by decide +kernel
theorem dJ6_bitCount_0f7a4_52 : decode cJ6_bitCount_0f7a4 52 = .ok (.ireturn, 1) := by decide +kernel
theorem dJ13_bitCount_95d88_0 : decode cJ13_bitCount_95d88 0 = .ok (.lload_n 0, 1) := by decide +kernel
theorem dJ13_bitCount_95d88_1 : decode cJ13_bitCount_95d88 1 = .ok (.lload_n 0, 1) := by decide +kernel
theorem dJ13_bitCount_95d88_2 : decode cJ13_bitCount_95d88 2 = .ok (.iconst 1, 1) := by decide +kernel
theorem dJ13_bitCount_95d88_3 : decode cJ13_bitCount_95d88 3 = .ok (.lushr, 1) := by decide +kernel
theorem dJ13_bitCount_95d88_4 : decode cJ13_bitCount_95d88 4 = .ok (.ldc2_w 314, 3) := by decide +kernel
theorem dJ13_bitCount_95d88_7 : decode cJ13_bitCount_95d88 7 = .ok (.land, 1) := by decide +kernel
theorem dJ13_bitCount_95d88_8 : decode cJ13_bitCount_95d88 8 = .ok (.lsub, 1) := by decide +kernel
theorem dJ13_bitCount_95d88_9 : decode cJ13_bitCount_95d88 9 = .ok (.lstore_n 0, 1) := by decide +kernel
theorem dJ13_bitCount_95d88_10 : decode cJ13_bitCount_95d88 10 = .ok (.lload_n 0, 1) := by decide +kernel
theorem dJ13_bitCount_95d88_11 : decode cJ13_bitCount_95d88 11 = .ok (.ldc2_w 316, 3) := by decide +kernel
theorem dJ13_bitCount_95d88_14 : decode cJ13_bitCount_95d88 14 = .ok (.land, 1) := by decide +kernel
theorem dJ13_bitCount_95d88_15 : decode cJ13_bitCount_95d88 15 = .ok (.lload_n 0, 1) := by decide +kernel
theorem dJ13_bitCount_95d88_16 : decode cJ13_bitCount_95d88 16 = .ok (.iconst 2, 1) := by decide +kernel
theorem dJ13_bitCount_95d88_17 : decode cJ13_bitCount_95d88 17 = .ok (.lushr, 1) := by decide +kernel
theorem dJ13_bitCount_95d88_18 : decode cJ13_bitCount_95d88 18 = .ok (.ldc2_w 316, 3) := by decide +kernel
theorem dJ13_bitCount_95d88_21 : decode cJ13_bitCount_95d88 21 = .ok (.land, 1) := by decide +kernel
theorem dJ13_bitCount_95d88_22 : decode cJ13_bitCount_95d88 22 = .ok (.ladd, 1) := by decide +kernel
theorem dJ13_bitCount_95d88_23 : decode cJ13_bitCount_95d88 23 = .ok (.lstore_n 0, 1) := by decide +kernel
theorem dJ13_bitCount_95d88_24 : decode cJ13_bitCount_95d88 24 = .ok (.lload_n 0, 1) := by decide +kernel
theorem dJ13_bitCount_95d88_25 : decode cJ13_bitCount_95d88 25 = .ok (.lload_n 0, 1) := by decide +kernel
theorem dJ13_bitCount_95d88_26 : decode cJ13_bitCount_95d88 26 = .ok (.iconst 4, 1) := by decide +kernel
theorem dJ13_bitCount_95d88_27 : decode cJ13_bitCount_95d88 27 = .ok (.lushr, 1) := by decide +kernel
theorem dJ13_bitCount_95d88_28 : decode cJ13_bitCount_95d88 28 = .ok (.ladd, 1) := by decide +kernel
theorem dJ13_bitCount_95d88_29 : decode cJ13_bitCount_95d88 29 = .ok (.ldc2_w 318, 3) := by decide +kernel
theorem dJ13_bitCount_95d88_32 : decode cJ13_bitCount_95d88 32 = .ok (.land, 1) := by decide +kernel
theorem dJ13_bitCount_95d88_33 : decode cJ13_bitCount_95d88 33 = .ok (.lstore_n 0, 1) := by decide +kernel
theorem dJ13_bitCount_95d88_34 : decode cJ13_bitCount_95d88 34 = .ok (.lload_n 0, 1) := by decide +kernel
theorem dJ13_bitCount_95d88_35 : decode cJ13_bitCount_95d88 35 = .ok (.lload_n 0, 1) := by decide +kernel
theorem dJ13_bitCount_95d88_36 : decode cJ13_bitCount_95d88 36 = .ok (.bipush 8, 2) := by decide +kernel
theorem dJ13_bitCount_95d88_38 : decode cJ13_bitCount_95d88 38 = .ok (.lushr, 1) := by decide +kernel
theorem dJ13_bitCount_95d88_39 : decode cJ13_bitCount_95d88 39 = .ok (.ladd, 1) := by decide +kernel
theorem dJ13_bitCount_95d88_40 : decode cJ13_bitCount_95d88 40 = .ok (.lstore_n 0, 1) := by decide +kernel
theorem dJ13_bitCount_95d88_41 : decode cJ13_bitCount_95d88 41 = .ok (.lload_n 0, 1) := by decide +kernel
theorem dJ13_bitCount_95d88_42 : decode cJ13_bitCount_95d88 42 = .ok (.lload_n 0, 1) := by decide +kernel
theorem dJ13_bitCount_95d88_43 : decode cJ13_bitCount_95d88 43 = .ok (.bipush 16, 2) := by decide +kernel
theorem dJ13_bitCount_95d88_45 : decode cJ13_bitCount_95d88 45 = .ok (.lushr, 1) := by decide +kernel
theorem dJ13_bitCount_95d88_46 : decode cJ13_bitCount_95d88 46 = .ok (.ladd, 1) := by decide +kernel
theorem dJ13_bitCount_95d88_47 : decode cJ13_bitCount_95d88 47 = .ok (.lstore_n 0, 1) := by decide +kernel
theorem dJ13_bitCount_95d88_48 : decode cJ13_bitCount_95d88 48 = .ok (.lload_n 0, 1) := by decide +kernel
theorem dJ13_bitCount_95d88_49 : decode cJ13_bitCount_95d88 49 = .ok (.lload_n 0, 1) := by decide +kernel
theorem dJ13_bitCount_95d88_50 : decode cJ13_bitCount_95d88 50 = .ok (.bipush 32, 2) := by decide +kernel
theorem dJ13_bitCount_95d88_52 : decode cJ13_bitCount_95d88 52 = .ok (.lushr, 1) := by decide +kernel
theorem dJ13_bitCount_95d88_53 : decode cJ13_bitCount_95d88 53 = .ok (.ladd, 1) := by decide +kernel
theorem dJ13_bitCount_95d88_54 : decode cJ13_bitCount_95d88 54 = .ok (.lstore_n 0, 1) := by decide +kernel
theorem dJ13_bitCount_95d88_55 : decode cJ13_bitCount_95d88 55 = .ok (.lload_n 0, 1) := by decide +kernel
theorem dJ13_bitCount_95d88_56 : decode cJ13_bitCount_95d88 56 = .ok (.l2i, 1) := by decide +kernel
theorem dJ13_bitCount_95d88_57 : decode cJ13_bitCount_95d88 57 = .ok (.bipush 127, 2) := by decide +kernel
theorem dJ13_bitCount_95d88_59 : decode cJ13_bitCount_95d88 59 = .ok (.iand, 1) := by decide +kernel
theorem dJ13_bitCount_95d88_60 : decode cJ13_bitCount_95d88 60 = .ok (.ireturn, 1) := by decide +kernel
