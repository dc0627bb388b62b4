theorem d_D_decode_0 : decode b_D_decode 0 = .ok (.aload_n 0, 1) := by decide +kernel
theorem d_D_decode_1 : decode b_D_decode 1 = .ok (.invokevirtual 183, 3) := by decide +kernel
theorem d_D_decode_4 : decode b_D_decode 4 = .ok (.ifCond .eq 10, 3) := by decide +kernel
theorem d_D_decode_7 : decode b_D_decode 7 = .ok (.aload_n 0, 1) := by decide +kernel
theorem d_D_decode_8 : decode b_D_decode 8 = .ok (.getfield 176, 3) := by decide +kernel
theorem d_D_decode_11 : decode b_D_decode 11 = .ok (.goto 4, 3) := by decide +kernel
theorem d_D_decode_14 : decode b_D_decode 14 = .ok (.iconst 0, 1) := by decide +kernel
theorem d_D_decode_15 : decode b_D_decode 15 = .ok (.ireturn, 1) := by decide +kernel
theorem d_D_find_0 : decode b_D_find 0 = .ok (.aload_n 0, 1) := by decide +kernel
theorem d_D_find_1 : decode b_D_find 1 = .ok (.invokevirtual 160, 3) := by decide +kernel
theorem d_D_find_4 : decode b_D_find 4 = .ok (.aload_n 0, 1) := by decide +kernel
theorem d_D_find_5 : decode b_D_find 5 = .ok (.invokevirtual 163, 3) := by decide +kernel
theorem d_D_find_8 : decode b_D_find 8 = .ok (.aload_n 0, 1) := by decide +kernel
theorem d_D_find_9 : decode b_D_find 9 = .ok (.aload_n 0, 1) := by decide +kernel
theorem d_D_find_10 : decode b_D_find 10 = .ok (.getfield 139, 3) := by decide +kernel
theorem d_D_find_13 : decode b_D_find 13 = .ok (.ifCond .ne 7, 3) := by decide +kernel
theorem d_D_find_16 : decode b_D_find 16 = .ok (.iconst 1, 1) := by decide +kernel
theorem d_D_find_17 : decode b_D_find 17 = .ok (.goto 4, 3) := by decide +kernel
theorem d_D_find_20 : decode b_D_find 20 = .ok (.iconst 0, 1) := by decide +kernel
theorem d_D_find_21 : decode b_D_find 21 = .ok (.putfield 75, 3) := by decide +kernel
theorem d_D_find_24 : decode b_D_find 24 = .ok (.aload_n 0, 1) := by decide +kernel
theorem d_D_find_25 : decode b_D_find 25 = .ok (.getfield 139, 3) := by decide +kernel
theorem d_D_find_28 : decode b_D_find 28 = .ok (.ifCond .ne 5, 3) := by decide +kernel
theorem d_D_find_31 : decode b_D_find 31 = .ok (.iconst 0, 1) := by decide +kernel
theorem d_D_find_32 : decode b_D_find 32 = .ok (.ireturn, 1) := by decide +kernel
theorem d_D_find_33 : decode b_D_find 33 = .ok (.aload_n 0, 1) := by decide +kernel
theorem d_D_find_34 : decode b_D_find 34 = .ok (.iconst 0, 1) := by decide +kernel
theorem d_D_find_35 : decode b_D_find 35 = .ok (.putfield 166, 3) := by decide +kernel
theorem d_D_find_38 : decode b_D_find 38 = .ok (.aload_n 0, 1) := by decide +kernel
theorem d_D_find_39 : decode b_D_find 39 = .ok (.lconst 0, 1) := by decide +kernel
theorem d_D_find_40 : decode b_D_find 40 = .ok (.putfield 169, 3) := by decide +kernel
theorem d_D_find_43 : decode b_D_find 43 = .ok (.aload_n 0, 1) := by decide +kernel
theorem d_D_find_44 : decode b_D_find 44 = .ok (.aload_n 0, 1) := by decide +kernel
theorem d_D_find_45 : decode b_D_find 45 = .ok (.getfield 139, 3) := by decide +kernel
theorem d_D_find_48 : decode b_D_find 48 = .ok (.putfield 173, 3) := by decide +kernel
theorem d_D_find_51 : decode b_D_find 51 = .ok (.aload_n 0, 1) := by decide +kernel
theorem d_D_find_52 : decode b_D_find 52 = .ok (.aload_n 0, 1) := by decide +kernel
theorem d_D_find_53 : decode b_D_find 53 = .ok (.getfield 142, 3) := by decide +kernel
theorem d_D_find_56 : decode b_D_find 56 = .ok (.putfield 176, 3) := by decide +kernel
theorem d_D_find_59 : decode b_D_find 59 = .ok (.iconst 0, 1) := by decide +kernel
theorem d_D_find_60 : decode b_D_find 60 = .ok (.istore_n 1, 1) := by decide +kernel
theorem d_D_find_61 : decode b_D_find 61 = .ok (.iload_n 1, 1) := by decide +kernel
theorem d_D_find_62 : decode b_D_find 62 = .ok (.aload_n 0, 1) := by decide +kernel
theorem d_D_find_63 : decode b_D_find 63 = .ok (.getfield 136, 3) := by decide +kernel
theorem d_D_find_66 : decode b_D_find 66 = .ok (.if_icmp .ge 167, 3) := by decide +kernel
theorem d_D_find_69 : decode b_D_find 69 = .ok (.aload_n 0, 1) := by decide +kernel
theorem d_D_find_70 : decode b_D_find 70 = .ok (.getfield 53, 3) := by decide +kernel
theorem d_D_find_73 : decode b_D_find 73 = .ok (.iload_n 1, 1) := by decide +kernel
theorem d_D_find_74 : decode b_D_find 74 = .ok (.iaload, 1) := by decide +kernel
theorem d_D_find_75 : decode b_D_find 75 = .ok (.iload_n 1, 1) := by decide +kernel
theorem d_D_find_76 : decode b_D_find 76 = .ok (.if_icmp .ge 6, 3) := by decide +kernel
theorem d_D_find_79 : decode b_D_find 79 = .ok (.goto 148, 3) := by decide +kernel
theorem d_D_find_82 : decode b_D_find 82 = .ok (.aload_n 0, 1) := by decide +kernel
theorem d_D_find_83 : decode b_D_find 83 = .ok (.getfield 62, 3) := by decide +kernel
theorem d_D_find_86 : decode b_D_find 86 = .ok (.aload_n 0, 1) := by decide +kernel
theorem d_D_find_87 : decode b_D_find 87 = .ok (.getfield 166, 3) := by decide +kernel
theorem d_D_find_90 : decode b_D_find 90 = .ok (.aload_n 0, 1) := by decide +kernel
theorem d_D_find_91 : decode b_D_find 91 = .ok (.getfield 41, 3) := by decide +kernel
theorem d_D_find_94 : decode b_D_find 94 = .ok (.iload_n 1, 1) := by decide +kernel
theorem d_D_find_95 : decode b_D_find 95 = .ok (.iaload, 1) := by decide +kernel
theorem d_D_find_96 : decode b_D_find 96 = .ok (.iastore, 1) := by decide +kernel
theorem d_D_find_97 : decode b_D_find 97 = .ok (.aload_n 0, 1) := by decide +kernel
theorem d_D_find_98 : decode b_D_find 98 = .ok (.getfield 68, 3) := by decide +kernel
theorem d_D_find_101 : decode b_D_find 101 = .ok (.aload_n 0, 1) := by decide +kernel
theorem d_D_find_102 : decode b_D_find 102 = .ok (.getfield 166, 3) := by decide +kernel
theorem d_D_find_105 : decode b_D_find 105 = .ok (.aload_n 0, 1) := by decide +kernel
theorem d_D_find_106 : decode b_D_find 106 = .ok (.getfield 53, 3) := by decide +kernel
theorem d_D_find_109 : decode b_D_find 109 = .ok (.iload_n 1, 1) := by decide +kernel
theorem d_D_find_110 : decode b_D_find 110 = .ok (.iaload, 1) := by decide +kernel
theorem d_D_find_111 : decode b_D_find 111 = .ok (.bipush 10, 2) := by decide +kernel
theorem d_D_find_113 : decode b_D_find 113 = .ok (.if_icmp .ne 7, 3) := by decide +kernel
theorem d_D_find_116 : decode b_D_find 116 = .ok (.iconst 1, 1) := by decide +kernel
theorem d_D_find_117 : decode b_D_find 117 = .ok (.goto 4, 3) := by decide +kernel
theorem d_D_find_120 : decode b_D_find 120 = .ok (.iconst 0, 1) := by decide +kernel
theorem d_D_find_121 : decode b_D_find 121 = .ok (.bastore, 1) := by decide +kernel
theorem d_D_find_122 : decode b_D_find 122 = .ok (.aload_n 0, 1) := by decide +kernel
theorem d_D_find_123 : decode b_D_find 123 = .ok (.getfield 65, 3) := by decide +kernel
theorem d_D_find_126 : decode b_D_find 126 = .ok (.aload_n 0, 1) := by decide +kernel
theorem d_D_find_127 : decode b_D_find 127 = .ok (.getfield 166, 3) := by decide +kernel
theorem d_D_find_130 : decode b_D_find 130 = .ok (.aload_n 0, 1) := by decide +kernel
theorem d_D_find_131 : decode b_D_find 131 = .ok (.getfield 68, 3) := by decide +kernel
theorem d_D_find_134 : decode b_D_find 134 = .ok (.aload_n 0, 1) := by decide +kernel
theorem d_D_find_135 : decode b_D_find 135 = .ok (.getfield 166, 3) := by decide +kernel
theorem d_D_find_138 : decode b_D_find 138 = .ok (.baload, 1) := by decide +kernel
theorem d_D_find_139 : decode b_D_find 139 = .ok (.ifCond .eq 12, 3) := by decide +kernel
theorem d_D_find_142 : decode b_D_find 142 = .ok (.aload_n 0, 1) := by decide +kernel
theorem d_D_find_143 : decode b_D_find 143 = .ok (.getfield 47, 3) := by decide +kernel
theorem d_D_find_146 : decode b_D_find 146 = .ok (.iload_n 1, 1) := by decide +kernel
theorem d_D_find_147 : decode b_D_find 147 = .ok (.iaload, 1) := by decide +kernel
theorem d_D_find_148 : decode b_D_find 148 = .ok (.goto 14, 3) := by decide +kernel
theorem d_D_find_151 : decode b_D_find 151 = .ok (.aload_n 0, 1) := by decide +kernel
theorem d_D_find_152 : decode b_D_find 152 = .ok (.getfield 41, 3) := by decide +kernel
theorem d_D_find_155 : decode b_D_find 155 = .ok (.aload_n 0, 1) := by decide +kernel
theorem d_D_find_156 : decode b_D_find 156 = .ok (.getfield 53, 3) := by decide +kernel
theorem d_D_find_159 : decode b_D_find 159 = .ok (.iload_n 1, 1) := by decide +kernel
theorem d_D_find_160 : decode b_D_find 160 = .ok (.iaload, 1) := by decide +kernel
theorem d_D_find_161 : decode b_D_find 161 = .ok (.iaload, 1) := by decide +kernel
theorem d_D_find_162 : decode b_D_find 162 = .ok (.iastore, 1) := by decide +kernel
theorem d_D_find_163 : decode b_D_find 163 = .ok (.aload_n 0, 1) := by decide +kernel
theorem d_D_find_164 : decode b_D_find 164 = .ok (.aload_n 0, 1) := by decide +kernel
theorem d_D_find_165 : decode b_D_find 165 = .ok (.getfield 62, 3) := by decide +kernel
theorem d_D_find_168 : decode b_D_find 168 = .ok (.aload_n 0, 1) := by decide +kernel
theorem d_D_find_169 : decode b_D_find 169 = .ok (.getfield 166, 3) := by decide +kernel
theorem d_D_find_172 : decode b_D_find 172 = .ok (.iaload, 1) := by decide +kernel
theorem d_D_find_173 : decode b_D_find 173 = .ok (.aload_n 0, 1) := by decide +kernel
theorem d_D_find_174 : decode b_D_find 174 = .ok (.getfield 65, 3) := by decide +kernel
theorem d_D_find_177 : decode b_D_find 177 = .ok (.aload_n 0, 1) := by decide +kernel
theorem d_D_find_178 : decode b_D_find 178 = .ok (.getfield 166, 3) := by decide +kernel
theorem d_D_find_181 : decode b_D_find 181 = .ok (.iaload, 1) := by decide +kernel
theorem d_D_find_182 : decode b_D_find 182 = .ok (.invokevirtual 133, 3) := by decide +kernel
theorem d_D_find_185 : decode b_D_find 185 = .ok (.pop, 1) := by decide +kernel
theorem d_D_find_186 : decode b_D_find 186 = .ok (.aload_n 0, 1) := by decide +kernel
theorem d_D_find_187 : decode b_D_find 187 = .ok (.getfield 71, 3) := by decide +kernel
theorem d_D_find_190 : decode b_D_find 190 = .ok (.aload_n 0, 1) := by decide +kernel
theorem d_D_find_191 : decode b_D_find 191 = .ok (.getfield 166, 3) := by decide +kernel
theorem d_D_find_194 : decode b_D_find 194 = .ok (.aload_n 0, 1) := by decide +kernel
theorem d_D_find_195 : decode b_D_find 195 = .ok (.invokevirtual 179, 3) := by decide +kernel
theorem d_D_find_198 : decode b_D_find 198 = .ok (.lastore, 1) := by decide +kernel
theorem d_D_find_199 : decode b_D_find 199 = .ok (.aload_n 0, 1) := by decide +kernel
theorem d_D_find_200 : decode b_D_find 200 = .ok (.dup, 1) := by decide +kernel
theorem d_D_find_201 : decode b_D_find 201 = .ok (.getfield 169, 3) := by decide +kernel
theorem d_D_find_204 : decode b_D_find 204 = .ok (.aload_n 0, 1) := by decide +kernel
theorem d_D_find_205 : decode b_D_find 205 = .ok (.getfield 71, 3) := by decide +kernel
theorem d_D_find_208 : decode b_D_find 208 = .ok (.aload_n 0, 1) := by decide +kernel
theorem d_D_find_209 : decode b_D_find 209 = .ok (.getfield 166, 3) := by decide +kernel
theorem d_D_find_212 : decode b_D_find 212 = .ok (.laload, 1) := by decide +kernel
theorem d_D_find_213 : decode b_D_find 213 = .ok (.lxor, 1) := by decide +kernel
theorem d_D_find_214 : decode b_D_find 214 = .ok (.putfield 169, 3) := by decide +kernel
theorem d_D_find_217 : decode b_D_find 217 = .ok (.aload_n 0, 1) := by decide +kernel
theorem d_D_find_218 : decode b_D_find 218 = .ok (.dup, 1) := by decide +kernel
theorem d_D_find_219 : decode b_D_find 219 = .ok (.getfield 166, 3) := by decide +kernel
theorem d_D_find_222 : decode b_D_find 222 = .ok (.iconst 1, 1) := by decide +kernel
theorem d_D_find_223 : decode b_D_find 223 = .ok (.iadd, 1) := by decide +kernel
theorem d_D_find_224 : decode b_D_find 224 = .ok (.putfield 166, 3) := by decide +kernel
theorem d_D_find_227 : decode b_D_find 227 = .ok (.iinc 1 1, 3) := by decide +kernel
theorem d_D_find_230 : decode b_D_find 230 = .ok (.goto (-169), 3) := by decide +kernel
theorem d_D_find_233 : decode b_D_find 233 = .ok (.iconst 1, 1) := by decide +kernel
theorem d_D_find_234 : decode b_D_find 234 = .ok (.ireturn, 1) := by decide +kernel
theorem d_D_findCosts_0 : decode b_D_findCosts 0 = .ok (.aload_n 0, 1) := by decide +kernel
theorem d_D_findCosts_1 : decode b_D_findCosts 1 = .ok (.iconst 0, 1) := by decide +kernel
theorem d_D_findCosts_2 : decode b_D_findCosts 2 = .ok (.putfield 136, 3) := by decide +kernel
theorem d_D_findCosts_5 : decode b_D_findCosts 5 = .ok (.iconst 0, 1) := by decide +kernel
theorem d_D_findCosts_6 : decode b_D_findCosts 6 = .ok (.istore_n 1, 1) := by decide +kernel
theorem d_D_findCosts_7 : decode b_D_findCosts 7 = .ok (.iload_n 1, 1) := by decide +kernel
theorem d_D_findCosts_8 : decode b_D_findCosts 8 = .ok (.aload_n 0, 1) := by decide +kernel
theorem d_D_findCosts_9 : decode b_D_findCosts 9 = .ok (.getfield 79, 3) := by decide +kernel
theorem d_D_findCosts_12 : decode b_D_findCosts 12 = .ok (.if_icmp .ge 43, 3) := by decide +kernel
theorem d_D_findCosts_15 : decode b_D_findCosts 15 = .ok (.aload_n 0, 1) := by decide +kernel
theorem d_D_findCosts_16 : decode b_D_findCosts 16 = .ok (.getfield 110, 3) := by decide +kernel
theorem d_D_findCosts_19 : decode b_D_findCosts 19 = .ok (.iload_n 1, 1) := by decide +kernel
theorem d_D_findCosts_20 : decode b_D_findCosts 20 = .ok (.ishr, 1) := by decide +kernel
theorem d_D_findCosts_21 : decode b_D_findCosts 21 = .ok (.iconst 1, 1) := by decide +kernel
theorem d_D_findCosts_22 : decode b_D_findCosts 22 = .ok (.iand, 1) := by decide +kernel
theorem d_D_findCosts_23 : decode b_D_findCosts 23 = .ok (.ifCond .ne 6, 3) := by decide +kernel
theorem d_D_findCosts_26 : decode b_D_findCosts 26 = .ok (.goto 23, 3) := by decide +kernel
theorem d_D_findCosts_29 : decode b_D_findCosts 29 = .ok (.aload_n 0, 1) := by decide +kernel
theorem d_D_findCosts_30 : decode b_D_findCosts 30 = .ok (.getfield 41, 3) := by decide +kernel
theorem d_D_findCosts_33 : decode b_D_findCosts 33 = .ok (.aload_n 0, 1) := by decide +kernel
theorem d_D_findCosts_34 : decode b_D_findCosts 34 = .ok (.getfield 136, 3) := by decide +kernel
theorem d_D_findCosts_37 : decode b_D_findCosts 37 = .ok (.iload_n 1, 1) := by decide +kernel
theorem d_D_findCosts_38 : decode b_D_findCosts 38 = .ok (.iastore, 1) := by decide +kernel
theorem d_D_findCosts_39 : decode b_D_findCosts 39 = .ok (.aload_n 0, 1) := by decide +kernel
theorem d_D_findCosts_40 : decode b_D_findCosts 40 = .ok (.dup, 1) := by decide +kernel
theorem d_D_findCosts_41 : decode b_D_findCosts 41 = .ok (.getfield 136, 3) := by decide +kernel
theorem d_D_findCosts_44 : decode b_D_findCosts 44 = .ok (.iconst 1, 1) := by decide +kernel
theorem d_D_findCosts_45 : decode b_D_findCosts 45 = .ok (.iadd, 1) := by decide +kernel
theorem d_D_findCosts_46 : decode b_D_findCosts 46 = .ok (.putfield 136, 3) := by decide +kernel
theorem d_D_findCosts_49 : decode b_D_findCosts 49 = .ok (.iinc 1 1, 3) := by decide +kernel
theorem d_D_findCosts_52 : decode b_D_findCosts 52 = .ok (.goto (-45), 3) := by decide +kernel
theorem d_D_findCosts_55 : decode b_D_findCosts 55 = .ok (.iconst 0, 1) := by decide +kernel
theorem d_D_findCosts_56 : decode b_D_findCosts 56 = .ok (.istore_n 1, 1) := by decide +kernel
theorem d_D_findCosts_57 : decode b_D_findCosts 57 = .ok (.iload_n 1, 1) := by decide +kernel
theorem d_D_findCosts_58 : decode b_D_findCosts 58 = .ok (.aload_n 0, 1) := by decide +kernel
theorem d_D_findCosts_59 : decode b_D_findCosts 59 = .ok (.getfield 136, 3) := by decide +kernel
theorem d_D_findCosts_62 : decode b_D_findCosts 62 = .ok (.if_icmp .ge 77, 3) := by decide +kernel
theorem d_D_findCosts_65 : decode b_D_findCosts 65 = .ok (.aload_n 0, 1) := by decide +kernel
theorem d_D_findCosts_66 : decode b_D_findCosts 66 = .ok (.aload_n 0, 1) := by decide +kernel
theorem d_D_findCosts_67 : decode b_D_findCosts 67 = .ok (.getfield 41, 3) := by decide +kernel
theorem d_D_findCosts_70 : decode b_D_findCosts 70 = .ok (.iload_n 1, 1) := by decide +kernel
theorem d_D_findCosts_71 : decode b_D_findCosts 71 = .ok (.iaload, 1) := by decide +kernel
theorem d_D_findCosts_72 : decode b_D_findCosts 72 = .ok (.invokevirtual 123, 3) := by decide +kernel
theorem d_D_findCosts_75 : decode b_D_findCosts 75 = .ok (.iconst 0, 1) := by decide +kernel
theorem d_D_findCosts_76 : decode b_D_findCosts 76 = .ok (.istore_n 2, 1) := by decide +kernel
theorem d_D_findCosts_77 : decode b_D_findCosts 77 = .ok (.iload_n 2, 1) := by decide +kernel
theorem d_D_findCosts_78 : decode b_D_findCosts 78 = .ok (.aload_n 0, 1) := by decide +kernel
theorem d_D_findCosts_79 : decode b_D_findCosts 79 = .ok (.getfield 136, 3) := by decide +kernel
theorem d_D_findCosts_82 : decode b_D_findCosts 82 = .ok (.if_icmp .ge 31, 3) := by decide +kernel
theorem d_D_findCosts_85 : decode b_D_findCosts 85 = .ok (.aload_n 0, 1) := by decide +kernel
theorem d_D_findCosts_86 : decode b_D_findCosts 86 = .ok (.getfield 44, 3) := by decide +kernel
theorem d_D_findCosts_89 : decode b_D_findCosts 89 = .ok (.bipush 11, 2) := by decide +kernel
theorem d_D_findCosts_91 : decode b_D_findCosts 91 = .ok (.iload_n 2, 1) := by decide +kernel
theorem d_D_findCosts_92 : decode b_D_findCosts 92 = .ok (.imul, 1) := by decide +kernel
theorem d_D_findCosts_93 : decode b_D_findCosts 93 = .ok (.iload_n 1, 1) := by decide +kernel
theorem d_D_findCosts_94 : decode b_D_findCosts 94 = .ok (.iadd, 1) := by decide +kernel
theorem d_D_findCosts_95 : decode b_D_findCosts 95 = .ok (.aload_n 0, 1) := by decide +kernel
theorem d_D_findCosts_96 : decode b_D_findCosts 96 = .ok (.getfield 32, 3) := by decide +kernel
theorem d_D_findCosts_99 : decode b_D_findCosts 99 = .ok (.aload_n 0, 1) := by decide +kernel
theorem d_D_findCosts_100 : decode b_D_findCosts 100 = .ok (.getfield 41, 3) := by decide +kernel
theorem d_D_findCosts_103 : decode b_D_findCosts 103 = .ok (.iload_n 2, 1) := by decide +kernel
theorem d_D_findCosts_104 : decode b_D_findCosts 104 = .ok (.iaload, 1) := by decide +kernel
theorem d_D_findCosts_105 : decode b_D_findCosts 105 = .ok (.iaload, 1) := by decide +kernel
theorem d_D_findCosts_106 : decode b_D_findCosts 106 = .ok (.iastore, 1) := by decide +kernel
theorem d_D_findCosts_107 : decode b_D_findCosts 107 = .ok (.iinc 2 1, 3) := by decide +kernel
theorem d_D_findCosts_110 : decode b_D_findCosts 110 = .ok (.goto (-33), 3) := by decide +kernel
theorem d_D_findCosts_113 : decode b_D_findCosts 113 = .ok (.aload_n 0, 1) := by decide +kernel
theorem d_D_findCosts_114 : decode b_D_findCosts 114 = .ok (.getfield 44, 3) := by decide +kernel
theorem d_D_findCosts_117 : decode b_D_findCosts 117 = .ok (.bipush 11, 2) := by decide +kernel
theorem d_D_findCosts_119 : decode b_D_findCosts 119 = .ok (.iload_n 1, 1) := by decide +kernel
theorem d_D_findCosts_120 : decode b_D_findCosts 120 = .ok (.imul, 1) := by decide +kernel
theorem d_D_findCosts_121 : decode b_D_findCosts 121 = .ok (.bipush 10, 2) := by decide +kernel
theorem d_D_findCosts_123 : decode b_D_findCosts 123 = .ok (.iadd, 1) := by decide +kernel
theorem d_D_findCosts_124 : decode b_D_findCosts 124 = .ok (.iconst (-1), 1) := by decide +kernel
theorem d_D_findCosts_125 : decode b_D_findCosts 125 = .ok (.iastore, 1) := by decide +kernel
theorem d_D_findCosts_126 : decode b_D_findCosts 126 = .ok (.aload_n 0, 1) := by decide +kernel
theorem d_D_findCosts_127 : decode b_D_findCosts 127 = .ok (.getfield 47, 3) := by decide +kernel
theorem d_D_findCosts_130 : decode b_D_findCosts 130 = .ok (.iload_n 1, 1) := by decide +kernel
theorem d_D_findCosts_131 : decode b_D_findCosts 131 = .ok (.iconst (-1), 1) := by decide +kernel
theorem d_D_findCosts_132 : decode b_D_findCosts 132 = .ok (.iastore, 1) := by decide +kernel
theorem d_D_findCosts_133 : decode b_D_findCosts 133 = .ok (.iinc 1 1, 3) := by decide +kernel
theorem d_D_findCosts_136 : decode b_D_findCosts 136 = .ok (.goto (-79), 3) := by decide +kernel
theorem d_D_findCosts_139 : decode b_D_findCosts 139 = .ok (.iconst 0, 1) := by decide +kernel
theorem d_D_findCosts_140 : decode b_D_findCosts 140 = .ok (.istore_n 1, 1) := by decide +kernel
theorem d_D_findCosts_141 : decode b_D_findCosts 141 = .ok (.iload_n 1, 1) := by decide +kernel
theorem d_D_findCosts_142 : decode b_D_findCosts 142 = .ok (.aload_n 0, 1) := by decide +kernel
theorem d_D_findCosts_143 : decode b_D_findCosts 143 = .ok (.getfield 79, 3) := by decide +kernel
theorem d_D_findCosts_146 : decode b_D_findCosts 146 = .ok (.if_icmp .ge 112, 3) := by decide +kernel
theorem d_D_findCosts_149 : decode b_D_findCosts 149 = .ok (.aload_n 0, 1) := by decide +kernel
theorem d_D_findCosts_150 : decode b_D_findCosts 150 = .ok (.getfield 7, 3) := by decide +kernel
theorem d_D_findCosts_153 : decode b_D_findCosts 153 = .ok (.iload_n 1, 1) := by decide +kernel
theorem d_D_findCosts_154 : decode b_D_findCosts 154 = .ok (.baload, 1) := by decide +kernel
theorem d_D_findCosts_155 : decode b_D_findCosts 155 = .ok (.ifCond .ne 6, 3) := by decide +kernel
theorem d_D_findCosts_158 : decode b_D_findCosts 158 = .ok (.goto 94, 3) := by decide +kernel
theorem d_D_findCosts_161 : decode b_D_findCosts 161 = .ok (.aload_n 0, 1) := by decide +kernel
theorem d_D_findCosts_162 : decode b_D_findCosts 162 = .ok (.iload_n 1, 1) := by decide +kernel
theorem d_D_findCosts_163 : decode b_D_findCosts 163 = .ok (.invokevirtual 123, 3) := by decide +kernel
theorem d_D_findCosts_166 : decode b_D_findCosts 166 = .ok (.iconst 0, 1) := by decide +kernel
theorem d_D_findCosts_167 : decode b_D_findCosts 167 = .ok (.istore_n 2, 1) := by decide +kernel
theorem d_D_findCosts_168 : decode b_D_findCosts 168 = .ok (.iload_n 2, 1) := by decide +kernel
theorem d_D_findCosts_169 : decode b_D_findCosts 169 = .ok (.aload_n 0, 1) := by decide +kernel
theorem d_D_findCosts_170 : decode b_D_findCosts 170 = .ok (.getfield 136, 3) := by decide +kernel
theorem d_D_findCosts_173 : decode b_D_findCosts 173 = .ok (.if_icmp .ge 79, 3) := by decide +kernel
theorem d_D_findCosts_176 : decode b_D_findCosts 176 = .ok (.aload_n 0, 1) := by decide +kernel
theorem d_D_findCosts_177 : decode b_D_findCosts 177 = .ok (.getfield 32, 3) := by decide +kernel
theorem d_D_findCosts_180 : decode b_D_findCosts 180 = .ok (.aload_n 0, 1) := by decide +kernel
theorem d_D_findCosts_181 : decode b_D_findCosts 181 = .ok (.getfield 41, 3) := by decide +kernel
theorem d_D_findCosts_184 : decode b_D_findCosts 184 = .ok (.iload_n 2, 1) := by decide +kernel
theorem d_D_findCosts_185 : decode b_D_findCosts 185 = .ok (.iaload, 1) := by decide +kernel
theorem d_D_findCosts_186 : decode b_D_findCosts 186 = .ok (.iaload, 1) := by decide +kernel
theorem d_D_findCosts_187 : decode b_D_findCosts 187 = .ok (.istore_n 3, 1) := by decide +kernel
theorem d_D_findCosts_188 : decode b_D_findCosts 188 = .ok (.iload_n 3, 1) := by decide +kernel
theorem d_D_findCosts_189 : decode b_D_findCosts 189 = .ok (.ifCond .lt 57, 3) := by decide +kernel
theorem d_D_findCosts_192 : decode b_D_findCosts 192 = .ok (.aload_n 0, 1) := by decide +kernel
theorem d_D_findCosts_193 : decode b_D_findCosts 193 = .ok (.getfield 44, 3) := by decide +kernel
theorem d_D_findCosts_196 : decode b_D_findCosts 196 = .ok (.bipush 11, 2) := by decide +kernel
theorem d_D_findCosts_198 : decode b_D_findCosts 198 = .ok (.iload_n 2, 1) := by decide +kernel
theorem d_D_findCosts_199 : decode b_D_findCosts 199 = .ok (.imul, 1) := by decide +kernel
theorem d_D_findCosts_200 : decode b_D_findCosts 200 = .ok (.bipush 10, 2) := by decide +kernel
theorem d_D_findCosts_202 : decode b_D_findCosts 202 = .ok (.iadd, 1) := by decide +kernel
theorem d_D_findCosts_203 : decode b_D_findCosts 203 = .ok (.iaload, 1) := by decide +kernel
theorem d_D_findCosts_204 : decode b_D_findCosts 204 = .ok (.ifCond .lt 22, 3) := by decide +kernel
theorem d_D_findCosts_207 : decode b_D_findCosts 207 = .ok (.aload_n 0, 1) := by decide +kernel
theorem d_D_findCosts_208 : decode b_D_findCosts 208 = .ok (.getfield 44, 3) := by decide +kernel
theorem d_D_findCosts_211 : decode b_D_findCosts 211 = .ok (.bipush 11, 2) := by decide +kernel
theorem d_D_findCosts_213 : decode b_D_findCosts 213 = .ok (.iload_n 2, 1) := by decide +kernel
theorem d_D_findCosts_214 : decode b_D_findCosts 214 = .ok (.imul, 1) := by decide +kernel
theorem d_D_findCosts_215 : decode b_D_findCosts 215 = .ok (.bipush 10, 2) := by decide +kernel
theorem d_D_findCosts_217 : decode b_D_findCosts 217 = .ok (.iadd, 1) := by decide +kernel
theorem d_D_findCosts_218 : decode b_D_findCosts 218 = .ok (.iaload, 1) := by decide +kernel
theorem d_D_findCosts_219 : decode b_D_findCosts 219 = .ok (.iload_n 3, 1) := by decide +kernel
theorem d_D_findCosts_220 : decode b_D_findCosts 220 = .ok (.if_icmp .gt 6, 3) := by decide +kernel
theorem d_D_findCosts_223 : decode b_D_findCosts 223 = .ok (.goto 23, 3) := by decide +kernel
theorem d_D_findCosts_226 : decode b_D_findCosts 226 = .ok (.aload_n 0, 1) := by decide +kernel
theorem d_D_findCosts_227 : decode b_D_findCosts 227 = .ok (.getfield 44, 3) := by decide +kernel
theorem d_D_findCosts_230 : decode b_D_findCosts 230 = .ok (.bipush 11, 2) := by decide +kernel
theorem d_D_findCosts_232 : decode b_D_findCosts 232 = .ok (.iload_n 2, 1) := by decide +kernel
theorem d_D_findCosts_233 : decode b_D_findCosts 233 = .ok (.imul, 1) := by decide +kernel
theorem d_D_findCosts_234 : decode b_D_findCosts 234 = .ok (.bipush 10, 2) := by decide +kernel
theorem d_D_findCosts_236 : decode b_D_findCosts 236 = .ok (.iadd, 1) := by decide +kernel
theorem d_D_findCosts_237 : decode b_D_findCosts 237 = .ok (.iload_n 3, 1) := by decide +kernel
theorem d_D_findCosts_238 : decode b_D_findCosts 238 = .ok (.iastore, 1) := by decide +kernel
theorem d_D_findCosts_239 : decode b_D_findCosts 239 = .ok (.aload_n 0, 1) := by decide +kernel
theorem d_D_findCosts_240 : decode b_D_findCosts 240 = .ok (.getfield 47, 3) := by decide +kernel
theorem d_D_findCosts_243 : decode b_D_findCosts 243 = .ok (.iload_n 2, 1) := by decide +kernel
theorem d_D_findCosts_244 : decode b_D_findCosts 244 = .ok (.iload_n 1, 1) := by decide +kernel
theorem d_D_findCosts_245 : decode b_D_findCosts 245 = .ok (.iastore, 1) := by decide +kernel
theorem d_D_findCosts_246 : decode b_D_findCosts 246 = .ok (.iinc 2 1, 3) := by decide +kernel
theorem d_D_findCosts_249 : decode b_D_findCosts 249 = .ok (.goto (-81), 3) := by decide +kernel
theorem d_D_findCosts_252 : decode b_D_findCosts 252 = .ok (.iinc 1 1, 3) := by decide +kernel
theorem d_D_findCosts_255 : decode b_D_findCosts 255 = .ok (.goto (-114), 3) := by decide +kernel
theorem d_D_findCosts_258 : decode b_D_findCosts 258 = .ok (.return_, 1) := by decide +kernel
theorem d_D_goThrough_0 : decode b_D_goThrough 0 = .ok (.aload_n 0, 1) := by decide +kernel
theorem d_D_goThrough_1 : decode b_D_goThrough 1 = .ok (.iconst 0, 1) := by decide +kernel
theorem d_D_goThrough_2 : decode b_D_goThrough 2 = .ok (.putfield 139, 3) := by decide +kernel
theorem d_D_goThrough_5 : decode b_D_goThrough 5 = .ok (.iconst 0, 1) := by decide +kernel
theorem d_D_goThrough_6 : decode b_D_goThrough 6 = .ok (.istore_n 1, 1) := by decide +kernel
theorem d_D_goThrough_7 : decode b_D_goThrough 7 = .ok (.iload_n 1, 1) := by decide +kernel
theorem d_D_goThrough_8 : decode b_D_goThrough 8 = .ok (.aload_n 0, 1) := by decide +kernel
theorem d_D_goThrough_9 : decode b_D_goThrough 9 = .ok (.getfield 136, 3) := by decide +kernel
theorem d_D_goThrough_12 : decode b_D_goThrough 12 = .ok (.if_icmp .ge 16, 3) := by decide +kernel
theorem d_D_goThrough_15 : decode b_D_goThrough 15 = .ok (.aload_n 0, 1) := by decide +kernel
theorem d_D_goThrough_16 : decode b_D_goThrough 16 = .ok (.getfield 50, 3) := by decide +kernel
theorem d_D_goThrough_19 : decode b_D_goThrough 19 = .ok (.iload_n 1, 1) := by decide +kernel
theorem d_D_goThrough_20 : decode b_D_goThrough 20 = .ok (.iconst (-1), 1) := by decide +kernel
theorem d_D_goThrough_21 : decode b_D_goThrough 21 = .ok (.iastore, 1) := by decide +kernel
theorem d_D_goThrough_22 : decode b_D_goThrough 22 = .ok (.iinc 1 1, 3) := by decide +kernel
theorem d_D_goThrough_25 : decode b_D_goThrough 25 = .ok (.goto (-18), 3) := by decide +kernel
theorem d_D_goThrough_28 : decode b_D_goThrough 28 = .ok (.iconst 0, 1) := by decide +kernel
theorem d_D_goThrough_29 : decode b_D_goThrough 29 = .ok (.istore_n 1, 1) := by decide +kernel
theorem d_D_goThrough_30 : decode b_D_goThrough 30 = .ok (.aload_n 0, 1) := by decide +kernel
theorem d_D_goThrough_31 : decode b_D_goThrough 31 = .ok (.getfield 56, 3) := by decide +kernel
theorem d_D_goThrough_34 : decode b_D_goThrough 34 = .ok (.iconst 0, 1) := by decide +kernel
theorem d_D_goThrough_35 : decode b_D_goThrough 35 = .ok (.iconst 0, 1) := by decide +kernel
theorem d_D_goThrough_36 : decode b_D_goThrough 36 = .ok (.iastore, 1) := by decide +kernel
theorem d_D_goThrough_37 : decode b_D_goThrough 37 = .ok (.aload_n 0, 1) := by decide +kernel
theorem d_D_goThrough_38 : decode b_D_goThrough 38 = .ok (.getfield 59, 3) := by decide +kernel
theorem d_D_goThrough_41 : decode b_D_goThrough 41 = .ok (.iconst 0, 1) := by decide +kernel
theorem d_D_goThrough_42 : decode b_D_goThrough 42 = .ok (.iconst 0, 1) := by decide +kernel
theorem d_D_goThrough_43 : decode b_D_goThrough 43 = .ok (.iastore, 1) := by decide +kernel
theorem d_D_goThrough_44 : decode b_D_goThrough 44 = .ok (.aload_n 0, 1) := by decide +kernel
theorem d_D_goThrough_45 : decode b_D_goThrough 45 = .ok (.getfield 136, 3) := by decide +kernel
theorem d_D_goThrough_48 : decode b_D_goThrough 48 = .ok (.ifCond .ne 7, 3) := by decide +kernel
theorem d_D_goThrough_51 : decode b_D_goThrough 51 = .ok (.aload_n 0, 1) := by decide +kernel
theorem d_D_goThrough_52 : decode b_D_goThrough 52 = .ok (.invokevirtual 151, 3) := by decide +kernel
theorem d_D_goThrough_55 : decode b_D_goThrough 55 = .ok (.iload_n 1, 1) := by decide +kernel
theorem d_D_goThrough_56 : decode b_D_goThrough 56 = .ok (.ifCond .lt 64, 3) := by decide +kernel
theorem d_D_goThrough_59 : decode b_D_goThrough 59 = .ok (.aload_n 0, 1) := by decide +kernel
theorem d_D_goThrough_60 : decode b_D_goThrough 60 = .ok (.getfield 136, 3) := by decide +kernel
theorem d_D_goThrough_63 : decode b_D_goThrough 63 = .ok (.ifCond .le 57, 3) := by decide +kernel
theorem d_D_goThrough_66 : decode b_D_goThrough 66 = .ok (.aload_n 0, 1) := by decide +kernel
theorem d_D_goThrough_67 : decode b_D_goThrough 67 = .ok (.iload_n 1, 1) := by decide +kernel
theorem d_D_goThrough_68 : decode b_D_goThrough 68 = .ok (.invokevirtual 154, 3) := by decide +kernel
theorem d_D_goThrough_71 : decode b_D_goThrough 71 = .ok (.ifCond .ne 9, 3) := by decide +kernel
theorem d_D_goThrough_74 : decode b_D_goThrough 74 = .ok (.iinc 1 (-1), 3) := by decide +kernel
theorem d_D_goThrough_77 : decode b_D_goThrough 77 = .ok (.goto (-22), 3) := by decide +kernel
theorem d_D_goThrough_80 : decode b_D_goThrough 80 = .ok (.aload_n 0, 1) := by decide +kernel
theorem d_D_goThrough_81 : decode b_D_goThrough 81 = .ok (.invokevirtual 157, 3) := by decide +kernel
theorem d_D_goThrough_84 : decode b_D_goThrough 84 = .ok (.istore_n 2, 1) := by decide +kernel
theorem d_D_goThrough_85 : decode b_D_goThrough 85 = .ok (.iload_n 2, 1) := by decide +kernel
theorem d_D_goThrough_86 : decode b_D_goThrough 86 = .ok (.aload_n 0, 1) := by decide +kernel
theorem d_D_goThrough_87 : decode b_D_goThrough 87 = .ok (.getfield 136, 3) := by decide +kernel
theorem d_D_goThrough_90 : decode b_D_goThrough 90 = .ok (.if_icmp .ne 10, 3) := by decide +kernel
theorem d_D_goThrough_93 : decode b_D_goThrough 93 = .ok (.aload_n 0, 1) := by decide +kernel
theorem d_D_goThrough_94 : decode b_D_goThrough 94 = .ok (.invokevirtual 151, 3) := by decide +kernel
theorem d_D_goThrough_97 : decode b_D_goThrough 97 = .ok (.goto (-42), 3) := by decide +kernel
theorem d_D_goThrough_100 : decode b_D_goThrough 100 = .ok (.iinc 1 1, 3) := by decide +kernel
theorem d_D_goThrough_103 : decode b_D_goThrough 103 = .ok (.aload_n 0, 1) := by decide +kernel
theorem d_D_goThrough_104 : decode b_D_goThrough 104 = .ok (.getfield 56, 3) := by decide +kernel
theorem d_D_goThrough_107 : decode b_D_goThrough 107 = .ok (.iload_n 1, 1) := by decide +kernel
theorem d_D_goThrough_108 : decode b_D_goThrough 108 = .ok (.iload_n 2, 1) := by decide +kernel
theorem d_D_goThrough_109 : decode b_D_goThrough 109 = .ok (.iastore, 1) := by decide +kernel
theorem d_D_goThrough_110 : decode b_D_goThrough 110 = .ok (.aload_n 0, 1) := by decide +kernel
theorem d_D_goThrough_111 : decode b_D_goThrough 111 = .ok (.getfield 59, 3) := by decide +kernel
theorem d_D_goThrough_114 : decode b_D_goThrough 114 = .ok (.iload_n 1, 1) := by decide +kernel
theorem d_D_goThrough_115 : decode b_D_goThrough 115 = .ok (.iload_n 2, 1) := by decide +kernel
theorem d_D_goThrough_116 : decode b_D_goThrough 116 = .ok (.iastore, 1) := by decide +kernel
theorem d_D_goThrough_117 : decode b_D_goThrough 117 = .ok (.goto (-62), 3) := by decide +kernel
theorem d_D_goThrough_120 : decode b_D_goThrough 120 = .ok (.return_, 1) := by decide +kernel
theorem d_D_hold_0 : decode b_D_hold 0 = .ok (.iconst 0, 1) := by decide +kernel
theorem d_D_hold_1 : decode b_D_hold 1 = .ok (.istore_n 1, 1) := by decide +kernel
theorem d_D_hold_2 : decode b_D_hold 2 = .ok (.iconst 0, 1) := by decide +kernel
theorem d_D_hold_3 : decode b_D_hold 3 = .ok (.istore_n 2, 1) := by decide +kernel
theorem d_D_hold_4 : decode b_D_hold 4 = .ok (.iload_n 2, 1) := by decide +kernel
theorem d_D_hold_5 : decode b_D_hold 5 = .ok (.aload_n 0, 1) := by decide +kernel
theorem d_D_hold_6 : decode b_D_hold 6 = .ok (.getfield 136, 3) := by decide +kernel
theorem d_D_hold_9 : decode b_D_hold 9 = .ok (.if_icmp .ge 38, 3) := by decide +kernel
theorem d_D_hold_12 : decode b_D_hold 12 = .ok (.aload_n 0, 1) := by decide +kernel
theorem d_D_hold_13 : decode b_D_hold 13 = .ok (.getfield 50, 3) := by decide +kernel
theorem d_D_hold_16 : decode b_D_hold 16 = .ok (.iload_n 2, 1) := by decide +kernel
theorem d_D_hold_17 : decode b_D_hold 17 = .ok (.iaload, 1) := by decide +kernel
theorem d_D_hold_18 : decode b_D_hold 18 = .ok (.iload_n 2, 1) := by decide +kernel
theorem d_D_hold_19 : decode b_D_hold 19 = .ok (.if_icmp .le 22, 3) := by decide +kernel
theorem d_D_hold_22 : decode b_D_hold 22 = .ok (.iload_n 1, 1) := by decide +kernel
theorem d_D_hold_23 : decode b_D_hold 23 = .ok (.aload_n 0, 1) := by decide +kernel
theorem d_D_hold_24 : decode b_D_hold 24 = .ok (.getfield 44, 3) := by decide +kernel
theorem d_D_hold_27 : decode b_D_hold 27 = .ok (.bipush 11, 2) := by decide +kernel
theorem d_D_hold_29 : decode b_D_hold 29 = .ok (.iload_n 2, 1) := by decide +kernel
theorem d_D_hold_30 : decode b_D_hold 30 = .ok (.imul, 1) := by decide +kernel
theorem d_D_hold_31 : decode b_D_hold 31 = .ok (.aload_n 0, 1) := by decide +kernel
theorem d_D_hold_32 : decode b_D_hold 32 = .ok (.getfield 50, 3) := by decide +kernel
theorem d_D_hold_35 : decode b_D_hold 35 = .ok (.iload_n 2, 1) := by decide +kernel
theorem d_D_hold_36 : decode b_D_hold 36 = .ok (.iaload, 1) := by decide +kernel
theorem d_D_hold_37 : decode b_D_hold 37 = .ok (.iadd, 1) := by decide +kernel
theorem d_D_hold_38 : decode b_D_hold 38 = .ok (.iaload, 1) := by decide +kernel
theorem d_D_hold_39 : decode b_D_hold 39 = .ok (.iadd, 1) := by decide +kernel
theorem d_D_hold_40 : decode b_D_hold 40 = .ok (.istore_n 1, 1) := by decide +kernel
theorem d_D_hold_41 : decode b_D_hold 41 = .ok (.iinc 2 1, 3) := by decide +kernel
theorem d_D_hold_44 : decode b_D_hold 44 = .ok (.goto (-40), 3) := by decide +kernel
theorem d_D_hold_47 : decode b_D_hold 47 = .ok (.aload_n 0, 1) := by decide +kernel
theorem d_D_hold_48 : decode b_D_hold 48 = .ok (.getfield 139, 3) := by decide +kernel
theorem d_D_hold_51 : decode b_D_hold 51 = .ok (.ifCond .le 12, 3) := by decide +kernel
theorem d_D_hold_54 : decode b_D_hold 54 = .ok (.iload_n 1, 1) := by decide +kernel
theorem d_D_hold_55 : decode b_D_hold 55 = .ok (.aload_n 0, 1) := by decide +kernel
theorem d_D_hold_56 : decode b_D_hold 56 = .ok (.getfield 142, 3) := by decide +kernel
theorem d_D_hold_59 : decode b_D_hold 59 = .ok (.if_icmp .le 4, 3) := by decide +kernel
theorem d_D_hold_62 : decode b_D_hold 62 = .ok (.return_, 1) := by decide +kernel
theorem d_D_hold_63 : decode b_D_hold 63 = .ok (.aload_n 0, 1) := by decide +kernel
theorem d_D_hold_64 : decode b_D_hold 64 = .ok (.getfield 139, 3) := by decide +kernel
theorem d_D_hold_67 : decode b_D_hold 67 = .ok (.ifCond .le 22, 3) := by decide +kernel
theorem d_D_hold_70 : decode b_D_hold 70 = .ok (.iload_n 1, 1) := by decide +kernel
theorem d_D_hold_71 : decode b_D_hold 71 = .ok (.aload_n 0, 1) := by decide +kernel
theorem d_D_hold_72 : decode b_D_hold 72 = .ok (.getfield 142, 3) := by decide +kernel
theorem d_D_hold_75 : decode b_D_hold 75 = .ok (.if_icmp .ne 14, 3) := by decide +kernel
theorem d_D_hold_78 : decode b_D_hold 78 = .ok (.aload_n 0, 1) := by decide +kernel
theorem d_D_hold_79 : decode b_D_hold 79 = .ok (.dup, 1) := by decide +kernel
theorem d_D_hold_80 : decode b_D_hold 80 = .ok (.getfield 139, 3) := by decide +kernel
theorem d_D_hold_83 : decode b_D_hold 83 = .ok (.iconst 1, 1) := by decide +kernel
theorem d_D_hold_84 : decode b_D_hold 84 = .ok (.iadd, 1) := by decide +kernel
theorem d_D_hold_85 : decode b_D_hold 85 = .ok (.putfield 139, 3) := by decide +kernel
theorem d_D_hold_88 : decode b_D_hold 88 = .ok (.return_, 1) := by decide +kernel
theorem d_D_hold_89 : decode b_D_hold 89 = .ok (.aload_n 0, 1) := by decide +kernel
theorem d_D_hold_90 : decode b_D_hold 90 = .ok (.iconst 1, 1) := by decide +kernel
theorem d_D_hold_91 : decode b_D_hold 91 = .ok (.putfield 139, 3) := by decide +kernel
theorem d_D_hold_94 : decode b_D_hold 94 = .ok (.aload_n 0, 1) := by decide +kernel
theorem d_D_hold_95 : decode b_D_hold 95 = .ok (.iload_n 1, 1) := by decide +kernel
theorem d_D_hold_96 : decode b_D_hold 96 = .ok (.putfield 142, 3) := by decide +kernel
theorem d_D_hold_99 : decode b_D_hold 99 = .ok (.iconst 0, 1) := by decide +kernel
theorem d_D_hold_100 : decode b_D_hold 100 = .ok (.istore_n 2, 1) := by decide +kernel
theorem d_D_hold_101 : decode b_D_hold 101 = .ok (.iload_n 2, 1) := by decide +kernel
theorem d_D_hold_102 : decode b_D_hold 102 = .ok (.aload_n 0, 1) := by decide +kernel
theorem d_D_hold_103 : decode b_D_hold 103 = .ok (.getfield 136, 3) := by decide +kernel
theorem d_D_hold_106 : decode b_D_hold 106 = .ok (.if_icmp .ge 21, 3) := by decide +kernel
theorem d_D_hold_109 : decode b_D_hold 109 = .ok (.aload_n 0, 1) := by decide +kernel
theorem d_D_hold_110 : decode b_D_hold 110 = .ok (.getfield 53, 3) := by decide +kernel
theorem d_D_hold_113 : decode b_D_hold 113 = .ok (.iload_n 2, 1) := by decide +kernel
theorem d_D_hold_114 : decode b_D_hold 114 = .ok (.aload_n 0, 1) := by decide +kernel
theorem d_D_hold_115 : decode b_D_hold 115 = .ok (.getfield 50, 3) := by decide +kernel
theorem d_D_hold_118 : decode b_D_hold 118 = .ok (.iload_n 2, 1) := by decide +kernel
theorem d_D_hold_119 : decode b_D_hold 119 = .ok (.iaload, 1) := by decide +kernel
theorem d_D_hold_120 : decode b_D_hold 120 = .ok (.iastore, 1) := by decide +kernel
theorem d_D_hold_121 : decode b_D_hold 121 = .ok (.iinc 2 1, 3) := by decide +kernel
theorem d_D_hold_124 : decode b_D_hold 124 = .ok (.goto (-23), 3) := by decide +kernel
theorem d_D_hold_127 : decode b_D_hold 127 = .ok (.return_, 1) := by decide +kernel
theorem d_D_tryNext_0 : decode b_D_tryNext 0 = .ok (.aload_n 0, 1) := by decide +kernel
theorem d_D_tryNext_1 : decode b_D_tryNext 1 = .ok (.getfield 56, 3) := by decide +kernel
theorem d_D_tryNext_4 : decode b_D_tryNext 4 = .ok (.iload_n 1, 1) := by decide +kernel
theorem d_D_tryNext_5 : decode b_D_tryNext 5 = .ok (.iaload, 1) := by decide +kernel
theorem d_D_tryNext_6 : decode b_D_tryNext 6 = .ok (.istore_n 2, 1) := by decide +kernel
theorem d_D_tryNext_7 : decode b_D_tryNext 7 = .ok (.aload_n 0, 1) := by decide +kernel
theorem d_D_tryNext_8 : decode b_D_tryNext 8 = .ok (.getfield 50, 3) := by decide +kernel
theorem d_D_tryNext_11 : decode b_D_tryNext 11 = .ok (.iload_n 2, 1) := by decide +kernel
theorem d_D_tryNext_12 : decode b_D_tryNext 12 = .ok (.iaload, 1) := by decide +kernel
theorem d_D_tryNext_13 : decode b_D_tryNext 13 = .ok (.iconst (-1), 1) := by decide +kernel
theorem d_D_tryNext_14 : decode b_D_tryNext 14 = .ok (.if_icmp .eq 8, 3) := by decide +kernel
theorem d_D_tryNext_17 : decode b_D_tryNext 17 = .ok (.aload_n 0, 1) := by decide +kernel
theorem d_D_tryNext_18 : decode b_D_tryNext 18 = .ok (.iload_n 2, 1) := by decide +kernel
theorem d_D_tryNext_19 : decode b_D_tryNext 19 = .ok (.invokevirtual 145, 3) := by decide +kernel
theorem d_D_tryNext_22 : decode b_D_tryNext 22 = .ok (.aload_n 0, 1) := by decide +kernel
theorem d_D_tryNext_23 : decode b_D_tryNext 23 = .ok (.getfield 59, 3) := by decide +kernel
theorem d_D_tryNext_26 : decode b_D_tryNext 26 = .ok (.iload_n 1, 1) := by decide +kernel
theorem d_D_tryNext_27 : decode b_D_tryNext 27 = .ok (.iaload, 1) := by decide +kernel
theorem d_D_tryNext_28 : decode b_D_tryNext 28 = .ok (.bipush 10, 2) := by decide +kernel
theorem d_D_tryNext_30 : decode b_D_tryNext 30 = .ok (.if_icmp .ge 54, 3) := by decide +kernel
theorem d_D_tryNext_33 : decode b_D_tryNext 33 = .ok (.aload_n 0, 1) := by decide +kernel
theorem d_D_tryNext_34 : decode b_D_tryNext 34 = .ok (.getfield 59, 3) := by decide +kernel
theorem d_D_tryNext_37 : decode b_D_tryNext 37 = .ok (.iload_n 1, 1) := by decide +kernel
theorem d_D_tryNext_38 : decode b_D_tryNext 38 = .ok (.dup2, 1) := by decide +kernel
theorem d_D_tryNext_39 : decode b_D_tryNext 39 = .ok (.iaload, 1) := by decide +kernel
theorem d_D_tryNext_40 : decode b_D_tryNext 40 = .ok (.iconst 1, 1) := by decide +kernel
theorem d_D_tryNext_41 : decode b_D_tryNext 41 = .ok (.iadd, 1) := by decide +kernel
theorem d_D_tryNext_42 : decode b_D_tryNext 42 = .ok (.iastore, 1) := by decide +kernel
theorem d_D_tryNext_43 : decode b_D_tryNext 43 = .ok (.aload_n 0, 1) := by decide +kernel
theorem d_D_tryNext_44 : decode b_D_tryNext 44 = .ok (.getfield 59, 3) := by decide +kernel
theorem d_D_tryNext_47 : decode b_D_tryNext 47 = .ok (.iload_n 1, 1) := by decide +kernel
theorem d_D_tryNext_48 : decode b_D_tryNext 48 = .ok (.iaload, 1) := by decide +kernel
theorem d_D_tryNext_49 : decode b_D_tryNext 49 = .ok (.istore_n 3, 1) := by decide +kernel
theorem d_D_tryNext_50 : decode b_D_tryNext 50 = .ok (.aload_n 0, 1) := by decide +kernel
theorem d_D_tryNext_51 : decode b_D_tryNext 51 = .ok (.iload_n 2, 1) := by decide +kernel
theorem d_D_tryNext_52 : decode b_D_tryNext 52 = .ok (.iload_n 3, 1) := by decide +kernel
theorem d_D_tryNext_53 : decode b_D_tryNext 53 = .ok (.invokevirtual 148, 3) := by decide +kernel
theorem d_D_tryNext_56 : decode b_D_tryNext 56 = .ok (.ifCond .ne 6, 3) := by decide +kernel
theorem d_D_tryNext_59 : decode b_D_tryNext 59 = .ok (.goto (-37), 3) := by decide +kernel
theorem d_D_tryNext_62 : decode b_D_tryNext 62 = .ok (.aload_n 0, 1) := by decide +kernel
theorem d_D_tryNext_63 : decode b_D_tryNext 63 = .ok (.getfield 50, 3) := by decide +kernel
theorem d_D_tryNext_66 : decode b_D_tryNext 66 = .ok (.iload_n 2, 1) := by decide +kernel
theorem d_D_tryNext_67 : decode b_D_tryNext 67 = .ok (.iload_n 3, 1) := by decide +kernel
theorem d_D_tryNext_68 : decode b_D_tryNext 68 = .ok (.iastore, 1) := by decide +kernel
theorem d_D_tryNext_69 : decode b_D_tryNext 69 = .ok (.iload_n 3, 1) := by decide +kernel
theorem d_D_tryNext_70 : decode b_D_tryNext 70 = .ok (.bipush 10, 2) := by decide +kernel
theorem d_D_tryNext_72 : decode b_D_tryNext 72 = .ok (.if_icmp .ge 10, 3) := by decide +kernel
theorem d_D_tryNext_75 : decode b_D_tryNext 75 = .ok (.aload_n 0, 1) := by decide +kernel
theorem d_D_tryNext_76 : decode b_D_tryNext 76 = .ok (.getfield 50, 3) := by decide +kernel
theorem d_D_tryNext_79 : decode b_D_tryNext 79 = .ok (.iload_n 3, 1) := by decide +kernel
theorem d_D_tryNext_80 : decode b_D_tryNext 80 = .ok (.iload_n 2, 1) := by decide +kernel
theorem d_D_tryNext_81 : decode b_D_tryNext 81 = .ok (.iastore, 1) := by decide +kernel
theorem d_D_tryNext_82 : decode b_D_tryNext 82 = .ok (.iconst 1, 1) := by decide +kernel
theorem d_D_tryNext_83 : decode b_D_tryNext 83 = .ok (.ireturn, 1) := by decide +kernel
theorem d_D_tryNext_84 : decode b_D_tryNext 84 = .ok (.iconst 0, 1) := by decide +kernel
theorem d_D_tryNext_85 : decode b_D_tryNext 85 = .ok (.ireturn, 1) := by decide +kernel
theorem d_D_unpair_0 : decode b_D_unpair 0 = .ok (.aload_n 0, 1) := by decide +kernel
theorem d_D_unpair_1 : decode b_D_unpair 1 = .ok (.getfield 50, 3) := by decide +kernel
theorem d_D_unpair_4 : decode b_D_unpair 4 = .ok (.iload_n 1, 1) := by decide +kernel
theorem d_D_unpair_5 : decode b_D_unpair 5 = .ok (.iaload, 1) := by decide +kernel
theorem d_D_unpair_6 : decode b_D_unpair 6 = .ok (.bipush 10, 2) := by decide +kernel
theorem d_D_unpair_8 : decode b_D_unpair 8 = .ok (.if_icmp .ge 15, 3) := by decide +kernel
theorem d_D_unpair_11 : decode b_D_unpair 11 = .ok (.aload_n 0, 1) := by decide +kernel
theorem d_D_unpair_12 : decode b_D_unpair 12 = .ok (.getfield 50, 3) := by decide +kernel
theorem d_D_unpair_15 : decode b_D_unpair 15 = .ok (.aload_n 0, 1) := by decide +kernel
theorem d_D_unpair_16 : decode b_D_unpair 16 = .ok (.getfield 50, 3) := by decide +kernel
theorem d_D_unpair_19 : decode b_D_unpair 19 = .ok (.iload_n 1, 1) := by decide +kernel
theorem d_D_unpair_20 : decode b_D_unpair 20 = .ok (.iaload, 1) := by decide +kernel
theorem d_D_unpair_21 : decode b_D_unpair 21 = .ok (.iconst (-1), 1) := by decide +kernel
theorem d_D_unpair_22 : decode b_D_unpair 22 = .ok (.iastore, 1) := by decide +kernel
theorem d_D_unpair_23 : decode b_D_unpair 23 = .ok (.aload_n 0, 1) := by decide +kernel
theorem d_D_unpair_24 : decode b_D_unpair 24 = .ok (.getfield 50, 3) := by decide +kernel
theorem d_D_unpair_27 : decode b_D_unpair 27 = .ok (.iload_n 1, 1) := by decide +kernel
theorem d_D_unpair_28 : decode b_D_unpair 28 = .ok (.iconst (-1), 1) := by decide +kernel
theorem d_D_unpair_29 : decode b_D_unpair 29 = .ok (.iastore, 1) := by decide +kernel
theorem d_D_unpair_30 : decode b_D_unpair 30 = .ok (.return_, 1) := by decide +kernel
theorem d_D_may_0 : decode b_D_may 0 = .ok (.iload_n 2, 1) := by decide +kernel
theorem d_D_may_1 : decode b_D_may 1 = .ok (.bipush 10, 2) := by decide +kernel
theorem d_D_may_3 : decode b_D_may 3 = .ok (.if_icmp .ne 26, 3) := by decide +kernel
theorem d_D_may_6 : decode b_D_may 6 = .ok (.aload_n 0, 1) := by decide +kernel
theorem d_D_may_7 : decode b_D_may 7 = .ok (.getfield 44, 3) := by decide +kernel
theorem d_D_may_10 : decode b_D_may 10 = .ok (.bipush 11, 2) := by decide +kernel
theorem d_D_may_12 : decode b_D_may 12 = .ok (.iload_n 1, 1) := by decide +kernel
theorem d_D_may_13 : decode b_D_may 13 = .ok (.imul, 1) := by decide +kernel
theorem d_D_may_14 : decode b_D_may 14 = .ok (.bipush 10, 2) := by decide +kernel
theorem d_D_may_16 : decode b_D_may 16 = .ok (.iadd, 1) := by decide +kernel
theorem d_D_may_17 : decode b_D_may 17 = .ok (.iaload, 1) := by decide +kernel
theorem d_D_may_18 : decode b_D_may 18 = .ok (.ifCond .lt 7, 3) := by decide +kernel
theorem d_D_may_21 : decode b_D_may 21 = .ok (.iconst 1, 1) := by decide +kernel
theorem d_D_may_22 : decode b_D_may 22 = .ok (.goto 44, 3) := by decide +kernel
theorem d_D_may_25 : decode b_D_may 25 = .ok (.iconst 0, 1) := by decide +kernel
theorem d_D_may_26 : decode b_D_may 26 = .ok (.goto 40, 3) := by decide +kernel
theorem d_D_may_29 : decode b_D_may 29 = .ok (.iload_n 2, 1) := by decide +kernel
theorem d_D_may_30 : decode b_D_may 30 = .ok (.aload_n 0, 1) := by decide +kernel
theorem d_D_may_31 : decode b_D_may 31 = .ok (.getfield 136, 3) := by decide +kernel
theorem d_D_may_34 : decode b_D_may 34 = .ok (.if_icmp .ge 31, 3) := by decide +kernel
theorem d_D_may_37 : decode b_D_may 37 = .ok (.aload_n 0, 1) := by decide +kernel
theorem d_D_may_38 : decode b_D_may 38 = .ok (.getfield 50, 3) := by decide +kernel
theorem d_D_may_41 : decode b_D_may 41 = .ok (.iload_n 2, 1) := by decide +kernel
theorem d_D_may_42 : decode b_D_may 42 = .ok (.iaload, 1) := by decide +kernel
theorem d_D_may_43 : decode b_D_may 43 = .ok (.iconst (-1), 1) := by decide +kernel
theorem d_D_may_44 : decode b_D_may 44 = .ok (.if_icmp .ne 21, 3) := by decide +kernel
theorem d_D_may_47 : decode b_D_may 47 = .ok (.aload_n 0, 1) := by decide +kernel
theorem d_D_may_48 : decode b_D_may 48 = .ok (.getfield 44, 3) := by decide +kernel
theorem d_D_may_51 : decode b_D_may 51 = .ok (.bipush 11, 2) := by decide +kernel
theorem d_D_may_53 : decode b_D_may 53 = .ok (.iload_n 1, 1) := by decide +kernel
theorem d_D_may_54 : decode b_D_may 54 = .ok (.imul, 1) := by decide +kernel
theorem d_D_may_55 : decode b_D_may 55 = .ok (.iload_n 2, 1) := by decide +kernel
theorem d_D_may_56 : decode b_D_may 56 = .ok (.iadd, 1) := by decide +kernel
theorem d_D_may_57 : decode b_D_may 57 = .ok (.iaload, 1) := by decide +kernel
theorem d_D_may_58 : decode b_D_may 58 = .ok (.ifCond .lt 7, 3) := by decide +kernel
theorem d_D_may_61 : decode b_D_may 61 = .ok (.iconst 1, 1) := by decide +kernel
theorem d_D_may_62 : decode b_D_may 62 = .ok (.goto 4, 3) := by decide +kernel
theorem d_D_may_65 : decode b_D_may 65 = .ok (.iconst 0, 1) := by decide +kernel
theorem d_D_may_66 : decode b_D_may 66 = .ok (.ireturn, 1) := by decide +kernel
theorem d_D_firstFree_0 : decode b_D_firstFree 0 = .ok (.iconst 0, 1) := by decide +kernel
theorem d_D_firstFree_1 : decode b_D_firstFree 1 = .ok (.istore_n 1, 1) := by decide +kernel
theorem d_D_firstFree_2 : decode b_D_firstFree 2 = .ok (.iload_n 1, 1) := by decide +kernel
theorem d_D_firstFree_3 : decode b_D_firstFree 3 = .ok (.aload_n 0, 1) := by decide +kernel
theorem d_D_firstFree_4 : decode b_D_firstFree 4 = .ok (.getfield 136, 3) := by decide +kernel
theorem d_D_firstFree_7 : decode b_D_firstFree 7 = .ok (.if_icmp .ge 21, 3) := by decide +kernel
theorem d_D_firstFree_10 : decode b_D_firstFree 10 = .ok (.aload_n 0, 1) := by decide +kernel
theorem d_D_firstFree_11 : decode b_D_firstFree 11 = .ok (.getfield 50, 3) := by decide +kernel
theorem d_D_firstFree_14 : decode b_D_firstFree 14 = .ok (.iload_n 1, 1) := by decide +kernel
theorem d_D_firstFree_15 : decode b_D_firstFree 15 = .ok (.iaload, 1) := by decide +kernel
theorem d_D_firstFree_16 : decode b_D_firstFree 16 = .ok (.iconst (-1), 1) := by decide +kernel
theorem d_D_firstFree_17 : decode b_D_firstFree 17 = .ok (.if_icmp .ne 5, 3) := by decide +kernel
theorem d_D_firstFree_20 : decode b_D_firstFree 20 = .ok (.iload_n 1, 1) := by decide +kernel
theorem d_D_firstFree_21 : decode b_D_firstFree 21 = .ok (.ireturn, 1) := by decide +kernel
theorem d_D_firstFree_22 : decode b_D_firstFree 22 = .ok (.iinc 1 1, 3) := by decide +kernel
theorem d_D_firstFree_25 : decode b_D_firstFree 25 = .ok (.goto (-23), 3) := by decide +kernel
theorem d_D_firstFree_28 : decode b_D_firstFree 28 = .ok (.aload_n 0, 1) := by decide +kernel
theorem d_D_firstFree_29 : decode b_D_firstFree 29 = .ok (.getfield 136, 3) := by decide +kernel
theorem d_D_firstFree_32 : decode b_D_firstFree 32 = .ok (.ireturn, 1) := by decide +kernel
theorem d_D_laidSet_0 : decode b_D_laidSet 0 = .ok (.lconst 0, 1) := by decide +kernel
theorem d_D_laidSet_1 : decode b_D_laidSet 1 = .ok (.lstore_n 1, 1) := by decide +kernel
theorem d_D_laidSet_2 : decode b_D_laidSet 2 = .ok (.iconst 0, 1) := by decide +kernel
theorem d_D_laidSet_3 : decode b_D_laidSet 3 = .ok (.istore_n 3, 1) := by decide +kernel
theorem d_D_laidSet_4 : decode b_D_laidSet 4 = .ok (.iload_n 3, 1) := by decide +kernel
theorem d_D_laidSet_5 : decode b_D_laidSet 5 = .ok (.aload_n 0, 1) := by decide +kernel
theorem d_D_laidSet_6 : decode b_D_laidSet 6 = .ok (.getfield 127, 3) := by decide +kernel
theorem d_D_laidSet_9 : decode b_D_laidSet 9 = .ok (.if_icmp .ge 20, 3) := by decide +kernel
theorem d_D_laidSet_12 : decode b_D_laidSet 12 = .ok (.lload_n 1, 1) := by decide +kernel
theorem d_D_laidSet_13 : decode b_D_laidSet 13 = .ok (.lconst 1, 1) := by decide +kernel
theorem d_D_laidSet_14 : decode b_D_laidSet 14 = .ok (.aload_n 0, 1) := by decide +kernel
theorem d_D_laidSet_15 : decode b_D_laidSet 15 = .ok (.getfield 38, 3) := by decide +kernel
theorem d_D_laidSet_18 : decode b_D_laidSet 18 = .ok (.iload_n 3, 1) := by decide +kernel
theorem d_D_laidSet_19 : decode b_D_laidSet 19 = .ok (.iaload, 1) := by decide +kernel
theorem d_D_laidSet_20 : decode b_D_laidSet 20 = .ok (.lshl, 1) := by decide +kernel
theorem d_D_laidSet_21 : decode b_D_laidSet 21 = .ok (.lor, 1) := by decide +kernel
theorem d_D_laidSet_22 : decode b_D_laidSet 22 = .ok (.lstore_n 1, 1) := by decide +kernel
theorem d_D_laidSet_23 : decode b_D_laidSet 23 = .ok (.iinc 3 1, 3) := by decide +kernel
theorem d_D_laidSet_26 : decode b_D_laidSet 26 = .ok (.goto (-22), 3) := by decide +kernel
theorem d_D_laidSet_29 : decode b_D_laidSet 29 = .ok (.lload_n 1, 1) := by decide +kernel
theorem d_D_laidSet_30 : decode b_D_laidSet 30 = .ok (.lreturn, 1) := by decide +kernel
theorem d_D_pair_0 : decode b_D_pair 0 = .ok (.aload_n 0, 1) := by decide +kernel
theorem d_D_pair_1 : decode b_D_pair 1 = .ok (.iconst 0, 1) := by decide +kernel
theorem d_D_pair_2 : decode b_D_pair 2 = .ok (.putfield 75, 3) := by decide +kernel
theorem d_D_pair_5 : decode b_D_pair 5 = .ok (.iload_n 1, 1) := by decide +kernel
theorem d_D_pair_6 : decode b_D_pair 6 = .ok (.ifCond .lt 20, 3) := by decide +kernel
theorem d_D_pair_9 : decode b_D_pair 9 = .ok (.iload_n 1, 1) := by decide +kernel
theorem d_D_pair_10 : decode b_D_pair 10 = .ok (.aload_n 0, 1) := by decide +kernel
theorem d_D_pair_11 : decode b_D_pair 11 = .ok (.getfield 166, 3) := by decide +kernel
theorem d_D_pair_14 : decode b_D_pair 14 = .ok (.if_icmp .ge 12, 3) := by decide +kernel
theorem d_D_pair_17 : decode b_D_pair 17 = .ok (.iload_n 2, 1) := by decide +kernel
theorem d_D_pair_18 : decode b_D_pair 18 = .ok (.ifCond .lt 8, 3) := by decide +kernel
theorem d_D_pair_21 : decode b_D_pair 21 = .ok (.iload_n 2, 1) := by decide +kernel
theorem d_D_pair_22 : decode b_D_pair 22 = .ok (.iconst 1, 1) := by decide +kernel
theorem d_D_pair_23 : decode b_D_pair 23 = .ok (.if_icmp .le 5, 3) := by decide +kernel
theorem d_D_pair_26 : decode b_D_pair 26 = .ok (.iconst (-1), 1) := by decide +kernel
theorem d_D_pair_27 : decode b_D_pair 27 = .ok (.ireturn, 1) := by decide +kernel
theorem d_D_pair_28 : decode b_D_pair 28 = .ok (.iload_n 2, 1) := by decide +kernel
theorem d_D_pair_29 : decode b_D_pair 29 = .ok (.ifCond .ne 12, 3) := by decide +kernel
theorem d_D_pair_32 : decode b_D_pair 32 = .ok (.aload_n 0, 1) := by decide +kernel
theorem d_D_pair_33 : decode b_D_pair 33 = .ok (.getfield 62, 3) := by decide +kernel
theorem d_D_pair_36 : decode b_D_pair 36 = .ok (.iload_n 1, 1) := by decide +kernel
theorem d_D_pair_37 : decode b_D_pair 37 = .ok (.iaload, 1) := by decide +kernel
theorem d_D_pair_38 : decode b_D_pair 38 = .ok (.goto 9, 3) := by decide +kernel
theorem d_D_pair_41 : decode b_D_pair 41 = .ok (.aload_n 0, 1) := by decide +kernel
theorem d_D_pair_42 : decode b_D_pair 42 = .ok (.getfield 65, 3) := by decide +kernel
theorem d_D_pair_45 : decode b_D_pair 45 = .ok (.iload_n 1, 1) := by decide +kernel
theorem d_D_pair_46 : decode b_D_pair 46 = .ok (.iaload, 1) := by decide +kernel
theorem d_D_pair_47 : decode b_D_pair 47 = .ok (.ireturn, 1) := by decide +kernel
theorem d_D_least_0 : decode b_D_least 0 = .ok (.aload_n 0, 1) := by decide +kernel
theorem d_D_least_1 : decode b_D_least 1 = .ok (.iconst 0, 1) := by decide +kernel
theorem d_D_least_2 : decode b_D_least 2 = .ok (.putfield 75, 3) := by decide +kernel
theorem d_D_least_5 : decode b_D_least 5 = .ok (.aload_n 0, 1) := by decide +kernel
theorem d_D_least_6 : decode b_D_least 6 = .ok (.getfield 173, 3) := by decide +kernel
theorem d_D_least_9 : decode b_D_least 9 = .ok (.ireturn, 1) := by decide +kernel
theorem d_D_fix_0 : decode b_D_fix 0 = .ok (.aload_n 0, 1) := by decide +kernel
theorem d_D_fix_1 : decode b_D_fix 1 = .ok (.iconst 0, 1) := by decide +kernel
theorem d_D_fix_2 : decode b_D_fix 2 = .ok (.putfield 75, 3) := by decide +kernel
theorem d_D_fix_5 : decode b_D_fix 5 = .ok (.aload_n 0, 1) := by decide +kernel
theorem d_D_fix_6 : decode b_D_fix 6 = .ok (.getfield 169, 3) := by decide +kernel
theorem d_D_fix_9 : decode b_D_fix 9 = .ok (.lreturn, 1) := by decide +kernel
theorem d_D_signs_0 : decode b_D_signs 0 = .ok (.aload_n 0, 1) := by decide +kernel
theorem d_D_signs_1 : decode b_D_signs 1 = .ok (.iconst 0, 1) := by decide +kernel
theorem d_D_signs_2 : decode b_D_signs 2 = .ok (.putfield 75, 3) := by decide +kernel
theorem d_D_signs_5 : decode b_D_signs 5 = .ok (.aload_n 0, 1) := by decide +kernel
theorem d_D_signs_6 : decode b_D_signs 6 = .ok (.lload_n 1, 1) := by decide +kernel
theorem d_D_signs_7 : decode b_D_signs 7 = .ok (.invokevirtual 187, 3) := by decide +kernel
theorem d_D_signs_10 : decode b_D_signs 10 = .ok (.ifCond .ne 5, 3) := by decide +kernel
theorem d_D_signs_13 : decode b_D_signs 13 = .ok (.iconst (-1), 1) := by decide +kernel
theorem d_D_signs_14 : decode b_D_signs 14 = .ok (.ireturn, 1) := by decide +kernel
theorem d_D_signs_15 : decode b_D_signs 15 = .ok (.iconst 0, 1) := by decide +kernel
theorem d_D_signs_16 : decode b_D_signs 16 = .ok (.istore_n 3, 1) := by decide +kernel
theorem d_D_signs_17 : decode b_D_signs 17 = .ok (.iconst 0, 1) := by decide +kernel
theorem d_D_signs_18 : decode b_D_signs 18 = .ok (.istore 4, 2) := by decide +kernel
theorem d_D_signs_20 : decode b_D_signs 20 = .ok (.iload 4, 2) := by decide +kernel
theorem d_D_signs_22 : decode b_D_signs 22 = .ok (.aload_n 0, 1) := by decide +kernel
theorem d_D_signs_23 : decode b_D_signs 23 = .ok (.getfield 87, 3) := by decide +kernel
theorem d_D_signs_26 : decode b_D_signs 26 = .ok (.if_icmp .ge 30, 3) := by decide +kernel
theorem d_D_signs_29 : decode b_D_signs 29 = .ok (.lload_n 1, 1) := by decide +kernel
theorem d_D_signs_30 : decode b_D_signs 30 = .ok (.iload 4, 2) := by decide +kernel
theorem d_D_signs_32 : decode b_D_signs 32 = .ok (.lshr, 1) := by decide +kernel
theorem d_D_signs_33 : decode b_D_signs 33 = .ok (.lconst 1, 1) := by decide +kernel
theorem d_D_signs_34 : decode b_D_signs 34 = .ok (.land, 1) := by decide +kernel
theorem d_D_signs_35 : decode b_D_signs 35 = .ok (.lconst 1, 1) := by decide +kernel
theorem d_D_signs_36 : decode b_D_signs 36 = .ok (.lcmp, 1) := by decide +kernel
theorem d_D_signs_37 : decode b_D_signs 37 = .ok (.ifCond .ne 13, 3) := by decide +kernel
theorem d_D_signs_40 : decode b_D_signs 40 = .ok (.iload_n 3, 1) := by decide +kernel
theorem d_D_signs_41 : decode b_D_signs 41 = .ok (.aload_n 0, 1) := by decide +kernel
theorem d_D_signs_42 : decode b_D_signs 42 = .ok (.getfield 26, 3) := by decide +kernel
theorem d_D_signs_45 : decode b_D_signs 45 = .ok (.iload 4, 2) := by decide +kernel
theorem d_D_signs_47 : decode b_D_signs 47 = .ok (.iaload, 1) := by decide +kernel
theorem d_D_signs_48 : decode b_D_signs 48 = .ok (.ixor, 1) := by decide +kernel
theorem d_D_signs_49 : decode b_D_signs 49 = .ok (.istore_n 3, 1) := by decide +kernel
theorem d_D_signs_50 : decode b_D_signs 50 = .ok (.iinc 4 1, 3) := by decide +kernel
theorem d_D_signs_53 : decode b_D_signs 53 = .ok (.goto (-33), 3) := by decide +kernel
theorem d_D_signs_56 : decode b_D_signs 56 = .ok (.iload_n 3, 1) := by decide +kernel
theorem d_D_signs_57 : decode b_D_signs 57 = .ok (.ireturn, 1) := by decide +kernel
theorem d_D_areEdges_0 : decode b_D_areEdges 0 = .ok (.lload_n 1, 1) := by decide +kernel
theorem d_D_areEdges_1 : decode b_D_areEdges 1 = .ok (.lconst 0, 1) := by decide +kernel
theorem d_D_areEdges_2 : decode b_D_areEdges 2 = .ok (.lcmp, 1) := by decide +kernel
theorem d_D_areEdges_3 : decode b_D_areEdges 3 = .ok (.ifCond .lt 18, 3) := by decide +kernel
theorem d_D_areEdges_6 : decode b_D_areEdges 6 = .ok (.lload_n 1, 1) := by decide +kernel
theorem d_D_areEdges_7 : decode b_D_areEdges 7 = .ok (.aload_n 0, 1) := by decide +kernel
theorem d_D_areEdges_8 : decode b_D_areEdges 8 = .ok (.getfield 87, 3) := by decide +kernel
theorem d_D_areEdges_11 : decode b_D_areEdges 11 = .ok (.lushr, 1) := by decide +kernel
theorem d_D_areEdges_12 : decode b_D_areEdges 12 = .ok (.lconst 0, 1) := by decide +kernel
theorem d_D_areEdges_13 : decode b_D_areEdges 13 = .ok (.lcmp, 1) := by decide +kernel
theorem d_D_areEdges_14 : decode b_D_areEdges 14 = .ok (.ifCond .ne 7, 3) := by decide +kernel
theorem d_D_areEdges_17 : decode b_D_areEdges 17 = .ok (.iconst 1, 1) := by decide +kernel
theorem d_D_areEdges_18 : decode b_D_areEdges 18 = .ok (.goto 4, 3) := by decide +kernel
theorem d_D_areEdges_21 : decode b_D_areEdges 21 = .ok (.iconst 0, 1) := by decide +kernel
theorem d_D_areEdges_22 : decode b_D_areEdges 22 = .ok (.ireturn, 1) := by decide +kernel
theorem d_D_syndrome_0 : decode b_D_syndrome 0 = .ok (.aload_n 0, 1) := by decide +kernel
theorem d_D_syndrome_1 : decode b_D_syndrome 1 = .ok (.iconst 0, 1) := by decide +kernel
theorem d_D_syndrome_2 : decode b_D_syndrome 2 = .ok (.putfield 75, 3) := by decide +kernel
theorem d_D_syndrome_5 : decode b_D_syndrome 5 = .ok (.aload_n 0, 1) := by decide +kernel
theorem d_D_syndrome_6 : decode b_D_syndrome 6 = .ok (.lload_n 1, 1) := by decide +kernel
theorem d_D_syndrome_7 : decode b_D_syndrome 7 = .ok (.invokevirtual 187, 3) := by decide +kernel
theorem d_D_syndrome_10 : decode b_D_syndrome 10 = .ok (.ifCond .ne 5, 3) := by decide +kernel
theorem d_D_syndrome_13 : decode b_D_syndrome 13 = .ok (.iconst (-1), 1) := by decide +kernel
theorem d_D_syndrome_14 : decode b_D_syndrome 14 = .ok (.ireturn, 1) := by decide +kernel
theorem d_D_syndrome_15 : decode b_D_syndrome 15 = .ok (.iconst 0, 1) := by decide +kernel
theorem d_D_syndrome_16 : decode b_D_syndrome 16 = .ok (.istore_n 3, 1) := by decide +kernel
theorem d_D_syndrome_17 : decode b_D_syndrome 17 = .ok (.iconst 0, 1) := by decide +kernel
theorem d_D_syndrome_18 : decode b_D_syndrome 18 = .ok (.istore 4, 2) := by decide +kernel
theorem d_D_syndrome_20 : decode b_D_syndrome 20 = .ok (.iload 4, 2) := by decide +kernel
theorem d_D_syndrome_22 : decode b_D_syndrome 22 = .ok (.aload_n 0, 1) := by decide +kernel
theorem d_D_syndrome_23 : decode b_D_syndrome 23 = .ok (.getfield 87, 3) := by decide +kernel
theorem d_D_syndrome_26 : decode b_D_syndrome 26 = .ok (.if_icmp .ge 42, 3) := by decide +kernel
theorem d_D_syndrome_29 : decode b_D_syndrome 29 = .ok (.lload_n 1, 1) := by decide +kernel
theorem d_D_syndrome_30 : decode b_D_syndrome 30 = .ok (.iload 4, 2) := by decide +kernel
theorem d_D_syndrome_32 : decode b_D_syndrome 32 = .ok (.lshr, 1) := by decide +kernel
theorem d_D_syndrome_33 : decode b_D_syndrome 33 = .ok (.lconst 1, 1) := by decide +kernel
theorem d_D_syndrome_34 : decode b_D_syndrome 34 = .ok (.land, 1) := by decide +kernel
theorem d_D_syndrome_35 : decode b_D_syndrome 35 = .ok (.lconst 1, 1) := by decide +kernel
theorem d_D_syndrome_36 : decode b_D_syndrome 36 = .ok (.lcmp, 1) := by decide +kernel
theorem d_D_syndrome_37 : decode b_D_syndrome 37 = .ok (.ifCond .ne 25, 3) := by decide +kernel
theorem d_D_syndrome_40 : decode b_D_syndrome 40 = .ok (.iload_n 3, 1) := by decide +kernel
theorem d_D_syndrome_41 : decode b_D_syndrome 41 = .ok (.iconst 1, 1) := by decide +kernel
theorem d_D_syndrome_42 : decode b_D_syndrome 42 = .ok (.aload_n 0, 1) := by decide +kernel
theorem d_D_syndrome_43 : decode b_D_syndrome 43 = .ok (.getfield 17, 3) := by decide +kernel
theorem d_D_syndrome_46 : decode b_D_syndrome 46 = .ok (.iload 4, 2) := by decide +kernel
theorem d_D_syndrome_48 : decode b_D_syndrome 48 = .ok (.iaload, 1) := by decide +kernel
theorem d_D_syndrome_49 : decode b_D_syndrome 49 = .ok (.ishl, 1) := by decide +kernel
theorem d_D_syndrome_50 : decode b_D_syndrome 50 = .ok (.iconst 1, 1) := by decide +kernel
theorem d_D_syndrome_51 : decode b_D_syndrome 51 = .ok (.aload_n 0, 1) := by decide +kernel
theorem d_D_syndrome_52 : decode b_D_syndrome 52 = .ok (.getfield 20, 3) := by decide +kernel
theorem d_D_syndrome_55 : decode b_D_syndrome 55 = .ok (.iload 4, 2) := by decide +kernel
theorem d_D_syndrome_57 : decode b_D_syndrome 57 = .ok (.iaload, 1) := by decide +kernel
theorem d_D_syndrome_58 : decode b_D_syndrome 58 = .ok (.ishl, 1) := by decide +kernel
theorem d_D_syndrome_59 : decode b_D_syndrome 59 = .ok (.ixor, 1) := by decide +kernel
theorem d_D_syndrome_60 : decode b_D_syndrome 60 = .ok (.ixor, 1) := by decide +kernel
theorem d_D_syndrome_61 : decode b_D_syndrome 61 = .ok (.istore_n 3, 1) := by decide +kernel
theorem d_D_syndrome_62 : decode b_D_syndrome 62 = .ok (.iinc 4 1, 3) := by decide +kernel
theorem d_D_syndrome_65 : decode b_D_syndrome 65 = .ok (.goto (-45), 3) := by decide +kernel
theorem d_D_syndrome_68 : decode b_D_syndrome 68 = .ok (.iconst 0, 1) := by decide +kernel
theorem d_D_syndrome_69 : decode b_D_syndrome 69 = .ok (.istore 4, 2) := by decide +kernel
theorem d_D_syndrome_71 : decode b_D_syndrome 71 = .ok (.iload 4, 2) := by decide +kernel
theorem d_D_syndrome_73 : decode b_D_syndrome 73 = .ok (.aload_n 0, 1) := by decide +kernel
theorem d_D_syndrome_74 : decode b_D_syndrome 74 = .ok (.getfield 79, 3) := by decide +kernel
theorem d_D_syndrome_77 : decode b_D_syndrome 77 = .ok (.if_icmp .ge 28, 3) := by decide +kernel
theorem d_D_syndrome_80 : decode b_D_syndrome 80 = .ok (.aload_n 0, 1) := by decide +kernel
theorem d_D_syndrome_81 : decode b_D_syndrome 81 = .ok (.getfield 7, 3) := by decide +kernel
theorem d_D_syndrome_84 : decode b_D_syndrome 84 = .ok (.iload 4, 2) := by decide +kernel
theorem d_D_syndrome_86 : decode b_D_syndrome 86 = .ok (.baload, 1) := by decide +kernel
theorem d_D_syndrome_87 : decode b_D_syndrome 87 = .ok (.ifCond .eq 12, 3) := by decide +kernel
theorem d_D_syndrome_90 : decode b_D_syndrome 90 = .ok (.iload_n 3, 1) := by decide +kernel
theorem d_D_syndrome_91 : decode b_D_syndrome 91 = .ok (.iconst 1, 1) := by decide +kernel
theorem d_D_syndrome_92 : decode b_D_syndrome 92 = .ok (.iload 4, 2) := by decide +kernel
theorem d_D_syndrome_94 : decode b_D_syndrome 94 = .ok (.ishl, 1) := by decide +kernel
theorem d_D_syndrome_95 : decode b_D_syndrome 95 = .ok (.iconst (-1), 1) := by decide +kernel
theorem d_D_syndrome_96 : decode b_D_syndrome 96 = .ok (.ixor, 1) := by decide +kernel
theorem d_D_syndrome_97 : decode b_D_syndrome 97 = .ok (.iand, 1) := by decide +kernel
theorem d_D_syndrome_98 : decode b_D_syndrome 98 = .ok (.istore_n 3, 1) := by decide +kernel
theorem d_D_syndrome_99 : decode b_D_syndrome 99 = .ok (.iinc 4 1, 3) := by decide +kernel
theorem d_D_syndrome_102 : decode b_D_syndrome 102 = .ok (.goto (-31), 3) := by decide +kernel
theorem d_D_syndrome_105 : decode b_D_syndrome 105 = .ok (.iload_n 3, 1) := by decide +kernel
theorem d_D_syndrome_106 : decode b_D_syndrome 106 = .ok (.ireturn, 1) := by decide +kernel
theorem d_D_commit_0 : decode b_D_commit 0 = .ok (.aload_n 0, 1) := by decide +kernel
theorem d_D_commit_1 : decode b_D_commit 1 = .ok (.iconst 0, 1) := by decide +kernel
theorem d_D_commit_2 : decode b_D_commit 2 = .ok (.putfield 75, 3) := by decide +kernel
theorem d_D_commit_5 : decode b_D_commit 5 = .ok (.iload_n 1, 1) := by decide +kernel
theorem d_D_commit_6 : decode b_D_commit 6 = .ok (.ifCond .lt 9, 3) := by decide +kernel
theorem d_D_commit_9 : decode b_D_commit 9 = .ok (.iload_n 1, 1) := by decide +kernel
theorem d_D_commit_10 : decode b_D_commit 10 = .ok (.bipush 10, 2) := by decide +kernel
theorem d_D_commit_12 : decode b_D_commit 12 = .ok (.if_icmp .le 5, 3) := by decide +kernel
theorem d_D_commit_15 : decode b_D_commit 15 = .ok (.iconst (-1), 1) := by decide +kernel
theorem d_D_commit_16 : decode b_D_commit 16 = .ok (.ireturn, 1) := by decide +kernel
theorem d_D_commit_17 : decode b_D_commit 17 = .ok (.aload_n 0, 1) := by decide +kernel
theorem d_D_commit_18 : decode b_D_commit 18 = .ok (.invokevirtual 183, 3) := by decide +kernel
theorem d_D_commit_21 : decode b_D_commit 21 = .ok (.ifCond .ne 5, 3) := by decide +kernel
theorem d_D_commit_24 : decode b_D_commit 24 = .ok (.iconst 0, 1) := by decide +kernel
theorem d_D_commit_25 : decode b_D_commit 25 = .ok (.ireturn, 1) := by decide +kernel
theorem d_D_commit_26 : decode b_D_commit 26 = .ok (.iconst 0, 1) := by decide +kernel
theorem d_D_commit_27 : decode b_D_commit 27 = .ok (.istore_n 2, 1) := by decide +kernel
theorem d_D_commit_28 : decode b_D_commit 28 = .ok (.iconst 0, 1) := by decide +kernel
theorem d_D_commit_29 : decode b_D_commit 29 = .ok (.istore_n 3, 1) := by decide +kernel
theorem d_D_commit_30 : decode b_D_commit 30 = .ok (.iload_n 3, 1) := by decide +kernel
theorem d_D_commit_31 : decode b_D_commit 31 = .ok (.aload_n 0, 1) := by decide +kernel
theorem d_D_commit_32 : decode b_D_commit 32 = .ok (.getfield 166, 3) := by decide +kernel
theorem d_D_commit_35 : decode b_D_commit 35 = .ok (.if_icmp .ge 131, 3) := by decide +kernel
theorem d_D_commit_38 : decode b_D_commit 38 = .ok (.aload_n 0, 1) := by decide +kernel
theorem d_D_commit_39 : decode b_D_commit 39 = .ok (.getfield 13, 3) := by decide +kernel
theorem d_D_commit_42 : decode b_D_commit 42 = .ok (.aload_n 0, 1) := by decide +kernel
theorem d_D_commit_43 : decode b_D_commit 43 = .ok (.getfield 62, 3) := by decide +kernel
theorem d_D_commit_46 : decode b_D_commit 46 = .ok (.iload_n 3, 1) := by decide +kernel
theorem d_D_commit_47 : decode b_D_commit 47 = .ok (.iaload, 1) := by decide +kernel
theorem d_D_commit_48 : decode b_D_commit 48 = .ok (.iaload, 1) := by decide +kernel
theorem d_D_commit_49 : decode b_D_commit 49 = .ok (.iload_n 1, 1) := by decide +kernel
theorem d_D_commit_50 : decode b_D_commit 50 = .ok (.if_icmp .ge 31, 3) := by decide +kernel
theorem d_D_commit_53 : decode b_D_commit 53 = .ok (.aload_n 0, 1) := by decide +kernel
theorem d_D_commit_54 : decode b_D_commit 54 = .ok (.getfield 68, 3) := by decide +kernel
theorem d_D_commit_57 : decode b_D_commit 57 = .ok (.iload_n 3, 1) := by decide +kernel
theorem d_D_commit_58 : decode b_D_commit 58 = .ok (.baload, 1) := by decide +kernel
theorem d_D_commit_59 : decode b_D_commit 59 = .ok (.ifCond .ne 18, 3) := by decide +kernel
theorem d_D_commit_62 : decode b_D_commit 62 = .ok (.aload_n 0, 1) := by decide +kernel
theorem d_D_commit_63 : decode b_D_commit 63 = .ok (.getfield 13, 3) := by decide +kernel
theorem d_D_commit_66 : decode b_D_commit 66 = .ok (.aload_n 0, 1) := by decide +kernel
theorem d_D_commit_67 : decode b_D_commit 67 = .ok (.getfield 65, 3) := by decide +kernel
theorem d_D_commit_70 : decode b_D_commit 70 = .ok (.iload_n 3, 1) := by decide +kernel
theorem d_D_commit_71 : decode b_D_commit 71 = .ok (.iaload, 1) := by decide +kernel
theorem d_D_commit_72 : decode b_D_commit 72 = .ok (.iaload, 1) := by decide +kernel
theorem d_D_commit_73 : decode b_D_commit 73 = .ok (.iload_n 1, 1) := by decide +kernel
theorem d_D_commit_74 : decode b_D_commit 74 = .ok (.if_icmp .ge 7, 3) := by decide +kernel
theorem d_D_commit_77 : decode b_D_commit 77 = .ok (.iconst 1, 1) := by decide +kernel
theorem d_D_commit_78 : decode b_D_commit 78 = .ok (.goto 4, 3) := by decide +kernel
theorem d_D_commit_81 : decode b_D_commit 81 = .ok (.iconst 0, 1) := by decide +kernel
theorem d_D_commit_82 : decode b_D_commit 82 = .ok (.istore 4, 2) := by decide +kernel
theorem d_D_commit_84 : decode b_D_commit 84 = .ok (.iload 4, 2) := by decide +kernel
theorem d_D_commit_86 : decode b_D_commit 86 = .ok (.ifCond .ne 6, 3) := by decide +kernel
theorem d_D_commit_89 : decode b_D_commit 89 = .ok (.goto 71, 3) := by decide +kernel
theorem d_D_commit_92 : decode b_D_commit 92 = .ok (.aload_n 0, 1) := by decide +kernel
theorem d_D_commit_93 : decode b_D_commit 93 = .ok (.dup, 1) := by decide +kernel
theorem d_D_commit_94 : decode b_D_commit 94 = .ok (.getfield 110, 3) := by decide +kernel
theorem d_D_commit_97 : decode b_D_commit 97 = .ok (.iconst 1, 1) := by decide +kernel
theorem d_D_commit_98 : decode b_D_commit 98 = .ok (.aload_n 0, 1) := by decide +kernel
theorem d_D_commit_99 : decode b_D_commit 99 = .ok (.getfield 62, 3) := by decide +kernel
theorem d_D_commit_102 : decode b_D_commit 102 = .ok (.iload_n 3, 1) := by decide +kernel
theorem d_D_commit_103 : decode b_D_commit 103 = .ok (.iaload, 1) := by decide +kernel
theorem d_D_commit_104 : decode b_D_commit 104 = .ok (.ishl, 1) := by decide +kernel
theorem d_D_commit_105 : decode b_D_commit 105 = .ok (.iconst (-1), 1) := by decide +kernel
theorem d_D_commit_106 : decode b_D_commit 106 = .ok (.ixor, 1) := by decide +kernel
theorem d_D_commit_107 : decode b_D_commit 107 = .ok (.iand, 1) := by decide +kernel
theorem d_D_commit_108 : decode b_D_commit 108 = .ok (.putfield 110, 3) := by decide +kernel
theorem d_D_commit_111 : decode b_D_commit 111 = .ok (.iinc 2 1, 3) := by decide +kernel
theorem d_D_commit_114 : decode b_D_commit 114 = .ok (.aload_n 0, 1) := by decide +kernel
theorem d_D_commit_115 : decode b_D_commit 115 = .ok (.getfield 68, 3) := by decide +kernel
theorem d_D_commit_118 : decode b_D_commit 118 = .ok (.iload_n 3, 1) := by decide +kernel
theorem d_D_commit_119 : decode b_D_commit 119 = .ok (.baload, 1) := by decide +kernel
theorem d_D_commit_120 : decode b_D_commit 120 = .ok (.ifCond .ne 25, 3) := by decide +kernel
theorem d_D_commit_123 : decode b_D_commit 123 = .ok (.aload_n 0, 1) := by decide +kernel
theorem d_D_commit_124 : decode b_D_commit 124 = .ok (.dup, 1) := by decide +kernel
theorem d_D_commit_125 : decode b_D_commit 125 = .ok (.getfield 110, 3) := by decide +kernel
theorem d_D_commit_128 : decode b_D_commit 128 = .ok (.iconst 1, 1) := by decide +kernel
theorem d_D_commit_129 : decode b_D_commit 129 = .ok (.aload_n 0, 1) := by decide +kernel
theorem d_D_commit_130 : decode b_D_commit 130 = .ok (.getfield 65, 3) := by decide +kernel
theorem d_D_commit_133 : decode b_D_commit 133 = .ok (.iload_n 3, 1) := by decide +kernel
theorem d_D_commit_134 : decode b_D_commit 134 = .ok (.iaload, 1) := by decide +kernel
theorem d_D_commit_135 : decode b_D_commit 135 = .ok (.ishl, 1) := by decide +kernel
theorem d_D_commit_136 : decode b_D_commit 136 = .ok (.iconst (-1), 1) := by decide +kernel
theorem d_D_commit_137 : decode b_D_commit 137 = .ok (.ixor, 1) := by decide +kernel
theorem d_D_commit_138 : decode b_D_commit 138 = .ok (.iand, 1) := by decide +kernel
theorem d_D_commit_139 : decode b_D_commit 139 = .ok (.putfield 110, 3) := by decide +kernel
theorem d_D_commit_142 : decode b_D_commit 142 = .ok (.iinc 2 1, 3) := by decide +kernel
theorem d_D_commit_145 : decode b_D_commit 145 = .ok (.aload_n 0, 1) := by decide +kernel
theorem d_D_commit_146 : decode b_D_commit 146 = .ok (.dup, 1) := by decide +kernel
theorem d_D_commit_147 : decode b_D_commit 147 = .ok (.getfield 191, 3) := by decide +kernel
theorem d_D_commit_150 : decode b_D_commit 150 = .ok (.aload_n 0, 1) := by decide +kernel
theorem d_D_commit_151 : decode b_D_commit 151 = .ok (.getfield 71, 3) := by decide +kernel
theorem d_D_commit_154 : decode b_D_commit 154 = .ok (.iload_n 3, 1) := by decide +kernel
theorem d_D_commit_155 : decode b_D_commit 155 = .ok (.laload, 1) := by decide +kernel
theorem d_D_commit_156 : decode b_D_commit 156 = .ok (.lxor, 1) := by decide +kernel
theorem d_D_commit_157 : decode b_D_commit 157 = .ok (.putfield 191, 3) := by decide +kernel
theorem d_D_commit_160 : decode b_D_commit 160 = .ok (.iinc 3 1, 3) := by decide +kernel
theorem d_D_commit_163 : decode b_D_commit 163 = .ok (.goto (-133), 3) := by decide +kernel
theorem d_D_commit_166 : decode b_D_commit 166 = .ok (.iload_n 2, 1) := by decide +kernel
theorem d_D_commit_167 : decode b_D_commit 167 = .ok (.ireturn, 1) := by decide +kernel
theorem d_D_kept_0 : decode b_D_kept 0 = .ok (.aload_n 0, 1) := by decide +kernel
theorem d_D_kept_1 : decode b_D_kept 1 = .ok (.iconst 0, 1) := by decide +kernel
theorem d_D_kept_2 : decode b_D_kept 2 = .ok (.putfield 75, 3) := by decide +kernel
theorem d_D_kept_5 : decode b_D_kept 5 = .ok (.aload_n 0, 1) := by decide +kernel
theorem d_D_kept_6 : decode b_D_kept 6 = .ok (.getfield 191, 3) := by decide +kernel
theorem d_D_kept_9 : decode b_D_kept 9 = .ok (.lreturn, 1) := by decide +kernel
theorem d_D_total_0 : decode b_D_total 0 = .ok (.aload_n 0, 1) := by decide +kernel
theorem d_D_total_1 : decode b_D_total 1 = .ok (.iconst 0, 1) := by decide +kernel
theorem d_D_total_2 : decode b_D_total 2 = .ok (.putfield 75, 3) := by decide +kernel
theorem d_D_total_5 : decode b_D_total 5 = .ok (.iconst 0, 1) := by decide +kernel
theorem d_D_total_6 : decode b_D_total 6 = .ok (.istore_n 2, 1) := by decide +kernel
theorem d_D_total_7 : decode b_D_total 7 = .ok (.iload_n 1, 1) := by decide +kernel
theorem d_D_total_8 : decode b_D_total 8 = .ok (.tableswitch 91 0 4 #[36, 41, 46, 51, 56], 36) := by decide +kernel
theorem d_D_total_44 : decode b_D_total 44 = .ok (.aload_n 0, 1) := by decide +kernel
theorem d_D_total_45 : decode b_D_total 45 = .ok (.getfield 79, 3) := by decide +kernel
theorem d_D_total_48 : decode b_D_total 48 = .ok (.ireturn, 1) := by decide +kernel
theorem d_D_total_49 : decode b_D_total 49 = .ok (.aload_n 0, 1) := by decide +kernel
theorem d_D_total_50 : decode b_D_total 50 = .ok (.getfield 87, 3) := by decide +kernel
theorem d_D_total_53 : decode b_D_total 53 = .ok (.ireturn, 1) := by decide +kernel
theorem d_D_total_54 : decode b_D_total 54 = .ok (.aload_n 0, 1) := by decide +kernel
theorem d_D_total_55 : decode b_D_total 55 = .ok (.getfield 110, 3) := by decide +kernel
theorem d_D_total_58 : decode b_D_total 58 = .ok (.ireturn, 1) := by decide +kernel
theorem d_D_total_59 : decode b_D_total 59 = .ok (.aload_n 0, 1) := by decide +kernel
theorem d_D_total_60 : decode b_D_total 60 = .ok (.getfield 166, 3) := by decide +kernel
theorem d_D_total_63 : decode b_D_total 63 = .ok (.ireturn, 1) := by decide +kernel
theorem d_D_total_64 : decode b_D_total 64 = .ok (.iconst 0, 1) := by decide +kernel
theorem d_D_total_65 : decode b_D_total 65 = .ok (.istore_n 3, 1) := by decide +kernel
theorem d_D_total_66 : decode b_D_total 66 = .ok (.iload_n 3, 1) := by decide +kernel
theorem d_D_total_67 : decode b_D_total 67 = .ok (.aload_n 0, 1) := by decide +kernel
theorem d_D_total_68 : decode b_D_total 68 = .ok (.getfield 87, 3) := by decide +kernel
theorem d_D_total_71 : decode b_D_total 71 = .ok (.if_icmp .ge 26, 3) := by decide +kernel
theorem d_D_total_74 : decode b_D_total 74 = .ok (.iload_n 2, 1) := by decide +kernel
theorem d_D_total_75 : decode b_D_total 75 = .ok (.aload_n 0, 1) := by decide +kernel
theorem d_D_total_76 : decode b_D_total 76 = .ok (.getfield 29, 3) := by decide +kernel
theorem d_D_total_79 : decode b_D_total 79 = .ok (.iload_n 3, 1) := by decide +kernel
theorem d_D_total_80 : decode b_D_total 80 = .ok (.baload, 1) := by decide +kernel
theorem d_D_total_81 : decode b_D_total 81 = .ok (.ifCond .eq 7, 3) := by decide +kernel
theorem d_D_total_84 : decode b_D_total 84 = .ok (.iconst 1, 1) := by decide +kernel
theorem d_D_total_85 : decode b_D_total 85 = .ok (.goto 4, 3) := by decide +kernel
theorem d_D_total_88 : decode b_D_total 88 = .ok (.iconst 0, 1) := by decide +kernel
theorem d_D_total_89 : decode b_D_total 89 = .ok (.iadd, 1) := by decide +kernel
theorem d_D_total_90 : decode b_D_total 90 = .ok (.istore_n 2, 1) := by decide +kernel
theorem d_D_total_91 : decode b_D_total 91 = .ok (.iinc 3 1, 3) := by decide +kernel
theorem d_D_total_94 : decode b_D_total 94 = .ok (.goto (-28), 3) := by decide +kernel
theorem d_D_total_97 : decode b_D_total 97 = .ok (.iload_n 2, 1) := by decide +kernel
theorem d_D_total_98 : decode b_D_total 98 = .ok (.ireturn, 1) := by decide +kernel
theorem d_D_total_99 : decode b_D_total 99 = .ok (.iconst (-1), 1) := by decide +kernel
theorem d_D_total_100 : decode b_D_total 100 = .ok (.ireturn, 1) := by decide +kernel
