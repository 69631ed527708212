theorem dX9_takesE_72 : decode cX9_takesE 72 = .ok (.iastore, 1) := by decide +kernel
theorem dX9_takesE_73 : decode cX9_takesE 73 = .ok (.aload_n 0, 1) := by decide +kernel
theorem dX9_takesE_74 : decode cX9_takesE 74 = .ok (.dup, 1) := by decide +kernel
theorem dX9_takesE_75 : decode cX9_takesE 75 = .ok (.getfield 101, 3) := by decide +kernel
theorem dX9_takesE_78 : decode cX9_takesE 78 = .ok (.iconst 1, 1) := by decide +kernel
theorem dX9_takesE_79 : decode cX9_takesE 79 = .ok (.iadd, 1) := by decide +kernel
theorem dX9_takesE_80 : decode cX9_takesE 80 = .ok (.putfield 101, 3) := by decide +kernel
theorem dX9_takesE_83 : decode cX9_takesE 83 = .ok (.aload_n 0, 1) := by decide +kernel
theorem dX9_takesE_84 : decode cX9_takesE 84 = .ok (.dup, 1) := by decide +kernel
theorem dX9_takesE_85 : decode cX9_takesE 85 = .ok (.getfield 68, 3) := by decide +kernel
theorem dX9_takesE_88 : decode cX9_takesE 88 = .ok (.iconst 1, 1) := by decide +kernel
theorem dX9_takesE_89 : decode cX9_takesE 89 = .ok (.iadd, 1) := by decide +kernel
theorem dX9_takesE_90 : decode cX9_takesE 90 = .ok (.putfield 68, 3) := by decide +kernel
theorem dX9_takesE_93 : decode cX9_takesE 93 = .ok (.goto (-71), 3) := by decide +kernel
theorem dX9_takesE_96 : decode cX9_takesE 96 = .ok (.aload_n 0, 1) := by decide +kernel
theorem dX9_takesE_97 : decode cX9_takesE 97 = .ok (.invokevirtual 344, 3) := by decide +kernel
theorem dX9_takesE_100 : decode cX9_takesE 100 = .ok (.ifCond .eq 8, 3) := by decide +kernel
theorem dX9_takesE_103 : decode cX9_takesE 103 = .ok (.iconst 0, 1) := by decide +kernel
theorem dX9_takesE_104 : decode cX9_takesE 104 = .ok (.istore_n 2, 1) := by decide +kernel
theorem dX9_takesE_105 : decode cX9_takesE 105 = .ok (.goto (-83), 3) := by decide +kernel
theorem dX9_takesE_108 : decode cX9_takesE 108 = .ok (.iconst 0, 1) := by decide +kernel
theorem dX9_takesE_109 : decode cX9_takesE 109 = .ok (.ireturn, 1) := by decide +kernel
theorem dX9_takesE_110 : decode cX9_takesE 110 = .ok (.iload_n 3, 1) := by decide +kernel
theorem dX9_takesE_111 : decode cX9_takesE 111 = .ok (.bipush 38, 2) := by decide +kernel
theorem dX9_takesE_113 : decode cX9_takesE 113 = .ok (.if_icmp .eq 9, 3) := by decide +kernel
theorem dX9_takesE_116 : decode cX9_takesE 116 = .ok (.iload_n 3, 1) := by decide +kernel
theorem dX9_takesE_117 : decode cX9_takesE 117 = .ok (.bipush 124, 2) := by decide +kernel
theorem dX9_takesE_119 : decode cX9_takesE 119 = .ok (.if_icmp .ne 43, 3) := by decide +kernel
theorem dX9_takesE_122 : decode cX9_takesE 122 = .ok (.aload_n 0, 1) := by decide +kernel
theorem dX9_takesE_123 : decode cX9_takesE 123 = .ok (.iload_n 3, 1) := by decide +kernel
theorem dX9_takesE_124 : decode cX9_takesE 124 = .ok (.invokevirtual 347, 3) := by decide +kernel
theorem dX9_takesE_127 : decode cX9_takesE 127 = .ok (.aload_n 0, 1) := by decide +kernel
theorem dX9_takesE_128 : decode cX9_takesE 128 = .ok (.getfield 95, 3) := by decide +kernel
theorem dX9_takesE_131 : decode cX9_takesE 131 = .ok (.aload_n 0, 1) := by decide +kernel
theorem dX9_takesE_132 : decode cX9_takesE 132 = .ok (.getfield 101, 3) := by decide +kernel
theorem dX9_takesE_135 : decode cX9_takesE 135 = .ok (.iload_n 3, 1) := by decide +kernel
theorem dX9_takesE_136 : decode cX9_takesE 136 = .ok (.iastore, 1) := by decide +kernel
theorem dX9_takesE_137 : decode cX9_takesE 137 = .ok (.aload_n 0, 1) := by decide +kernel
theorem dX9_takesE_138 : decode cX9_takesE 138 = .ok (.dup, 1) := by decide +kernel
theorem dX9_takesE_139 : decode cX9_takesE 139 = .ok (.getfield 101, 3) := by decide +kernel
theorem dX9_takesE_142 : decode cX9_takesE 142 = .ok (.iconst 1, 1) := by decide +kernel
theorem dX9_takesE_143 : decode cX9_takesE 143 = .ok (.iadd, 1) := by decide +kernel
theorem dX9_takesE_144 : decode cX9_takesE 144 = .ok (.putfield 101, 3) := by decide +kernel
theorem dX9_takesE_147 : decode cX9_takesE 147 = .ok (.iconst 1, 1) := by decide +kernel
theorem dX9_takesE_148 : decode cX9_takesE 148 = .ok (.istore_n 2, 1) := by decide +kernel
theorem dX9_takesE_149 : decode cX9_takesE 149 = .ok (.aload_n 0, 1) := by decide +kernel
theorem dX9_takesE_150 : decode cX9_takesE 150 = .ok (.dup, 1) := by decide +kernel
theorem dX9_takesE_151 : decode cX9_takesE 151 = .ok (.getfield 68, 3) := by decide +kernel
theorem dX9_takesE_154 : decode cX9_takesE 154 = .ok (.iconst 1, 1) := by decide +kernel
theorem dX9_takesE_155 : decode cX9_takesE 155 = .ok (.iadd, 1) := by decide +kernel
theorem dX9_takesE_156 : decode cX9_takesE 156 = .ok (.putfield 68, 3) := by decide +kernel
theorem dX9_takesE_159 : decode cX9_takesE 159 = .ok (.goto (-137), 3) := by decide +kernel
theorem dX9_takesE_162 : decode cX9_takesE 162 = .ok (.aload_n 0, 1) := by decide +kernel
theorem dX9_takesE_163 : decode cX9_takesE 163 = .ok (.bipush 124, 2) := by decide +kernel
theorem dX9_takesE_165 : decode cX9_takesE 165 = .ok (.invokevirtual 347, 3) := by decide +kernel
theorem dX9_takesE_168 : decode cX9_takesE 168 = .ok (.aload_n 0, 1) := by decide +kernel
theorem dX9_takesE_169 : decode cX9_takesE 169 = .ok (.getfield 89, 3) := by decide +kernel
theorem dX9_takesE_172 : decode cX9_takesE 172 = .ok (.iload_n 1, 1) := by decide +kernel
theorem dX9_takesE_173 : decode cX9_takesE 173 = .ok (.aload_n 0, 1) := by decide +kernel
theorem dX9_takesE_174 : decode cX9_takesE 174 = .ok (.getfield 98, 3) := by decide +kernel
theorem dX9_takesE_177 : decode cX9_takesE 177 = .ok (.iastore, 1) := by decide +kernel
theorem dX9_takesE_178 : decode cX9_takesE 178 = .ok (.aload_n 0, 1) := by decide +kernel
theorem dX9_takesE_179 : decode cX9_takesE 179 = .ok (.getfield 101, 3) := by decide +kernel
theorem dX9_takesE_182 : decode cX9_takesE 182 = .ok (.ifCond .ne 5, 3) := by decide +kernel
theorem dX9_takesE_185 : decode cX9_takesE 185 = .ok (.iconst 1, 1) := by decide +kernel
theorem dX9_takesE_186 : decode cX9_takesE 186 = .ok (.ireturn, 1) := by decide +kernel
theorem dX9_takesE_187 : decode cX9_takesE 187 = .ok (.iload_n 3, 1) := by decide +kernel
theorem dX9_takesE_188 : decode cX9_takesE 188 = .ok (.bipush 41, 2) := by decide +kernel
theorem dX9_takesE_190 : decode cX9_takesE 190 = .ok (.if_icmp .eq 5, 3) := by decide +kernel
theorem dX9_takesE_193 : decode cX9_takesE 193 = .ok (.iconst 0, 1) := by decide +kernel
theorem dX9_takesE_194 : decode cX9_takesE 194 = .ok (.ireturn, 1) := by decide +kernel
theorem dX9_takesE_195 : decode cX9_takesE 195 = .ok (.aload_n 0, 1) := by decide +kernel
theorem dX9_takesE_196 : decode cX9_takesE 196 = .ok (.dup, 1) := by decide +kernel
theorem dX9_takesE_197 : decode cX9_takesE 197 = .ok (.getfield 101, 3) := by decide +kernel
theorem dX9_takesE_200 : decode cX9_takesE 200 = .ok (.iconst 1, 1) := by decide +kernel
theorem dX9_takesE_201 : decode cX9_takesE 201 = .ok (.isub, 1) := by decide +kernel
theorem dX9_takesE_202 : decode cX9_takesE 202 = .ok (.putfield 101, 3) := by decide +kernel
theorem dX9_takesE_205 : decode cX9_takesE 205 = .ok (.aload_n 0, 1) := by decide +kernel
theorem dX9_takesE_206 : decode cX9_takesE 206 = .ok (.dup, 1) := by decide +kernel
theorem dX9_takesE_207 : decode cX9_takesE 207 = .ok (.getfield 104, 3) := by decide +kernel
theorem dX9_takesE_210 : decode cX9_takesE 210 = .ok (.iconst 1, 1) := by decide +kernel
theorem dX9_takesE_211 : decode cX9_takesE 211 = .ok (.isub, 1) := by decide +kernel
theorem dX9_takesE_212 : decode cX9_takesE 212 = .ok (.putfield 104, 3) := by decide +kernel
theorem dX9_takesE_215 : decode cX9_takesE 215 = .ok (.aload_n 0, 1) := by decide +kernel
theorem dX9_takesE_216 : decode cX9_takesE 216 = .ok (.dup, 1) := by decide +kernel
theorem dX9_takesE_217 : decode cX9_takesE 217 = .ok (.getfield 68, 3) := by decide +kernel
theorem dX9_takesE_220 : decode cX9_takesE 220 = .ok (.iconst 1, 1) := by decide +kernel
theorem dX9_takesE_221 : decode cX9_takesE 221 = .ok (.iadd, 1) := by decide +kernel
theorem dX9_takesE_222 : decode cX9_takesE 222 = .ok (.putfield 68, 3) := by decide +kernel
theorem dX9_takesE_225 : decode cX9_takesE 225 = .ok (.aload_n 0, 1) := by decide +kernel
theorem dX9_takesE_226 : decode cX9_takesE 226 = .ok (.invokevirtual 341, 3) := by decide +kernel
theorem dX9_takesE_229 : decode cX9_takesE 229 = .ok (.goto (-207), 3) := by decide +kernel
theorem dX9_takesHead_0 : decode cX9_takesHead 0 = .ok (.aload_n 0, 1) := by decide +kernel
theorem dX9_takesHead_1 : decode cX9_takesHead 1 = .ok (.invokevirtual 319, 3) := by decide +kernel
theorem dX9_takesHead_4 : decode cX9_takesHead 4 = .ok (.lookupswitch 79 #[(98, 64), (100, 50), (107, 36)], 36) := by decide +kernel
theorem dX9_takesHead_40 : decode cX9_takesHead 40 = .ok (.aload_n 0, 1) := by decide +kernel
theorem dX9_takesHead_41 : decode cX9_takesHead 41 = .ok (.getfield 80, 3) := by decide +kernel
theorem dX9_takesHead_44 : decode cX9_takesHead 44 = .ok (.iload_n 1, 1) := by decide +kernel
theorem dX9_takesHead_45 : decode cX9_takesHead 45 = .ok (.iconst 0, 1) := by decide +kernel
theorem dX9_takesHead_46 : decode cX9_takesHead 46 = .ok (.iastore, 1) := by decide +kernel
theorem dX9_takesHead_47 : decode cX9_takesHead 47 = .ok (.aload_n 0, 1) := by decide +kernel
theorem dX9_takesHead_48 : decode cX9_takesHead 48 = .ok (.iconst 0, 1) := by decide +kernel
theorem dX9_takesHead_49 : decode cX9_takesHead 49 = .ok (.iconst 4, 1) := by decide +kernel
theorem dX9_takesHead_50 : decode cX9_takesHead 50 = .ok (.invokevirtual 350, 3) := by decide +kernel
theorem dX9_takesHead_53 : decode cX9_takesHead 53 = .ok (.ireturn, 1) := by decide +kernel
theorem dX9_takesHead_54 : decode cX9_takesHead 54 = .ok (.aload_n 0, 1) := by decide +kernel
theorem dX9_takesHead_55 : decode cX9_takesHead 55 = .ok (.getfield 80, 3) := by decide +kernel
theorem dX9_takesHead_58 : decode cX9_takesHead 58 = .ok (.iload_n 1, 1) := by decide +kernel
theorem dX9_takesHead_59 : decode cX9_takesHead 59 = .ok (.iconst 1, 1) := by decide +kernel
theorem dX9_takesHead_60 : decode cX9_takesHead 60 = .ok (.iastore, 1) := by decide +kernel
theorem dX9_takesHead_61 : decode cX9_takesHead 61 = .ok (.aload_n 0, 1) := by decide +kernel
theorem dX9_takesHead_62 : decode cX9_takesHead 62 = .ok (.iconst 4, 1) := by decide +kernel
theorem dX9_takesHead_63 : decode cX9_takesHead 63 = .ok (.iconst 4, 1) := by decide +kernel
theorem dX9_takesHead_64 : decode cX9_takesHead 64 = .ok (.invokevirtual 350, 3) := by decide +kernel
theorem dX9_takesHead_67 : decode cX9_takesHead 67 = .ok (.ireturn, 1) := by decide +kernel
theorem dX9_takesHead_68 : decode cX9_takesHead 68 = .ok (.aload_n 0, 1) := by decide +kernel
theorem dX9_takesHead_69 : decode cX9_takesHead 69 = .ok (.getfield 80, 3) := by decide +kernel
theorem dX9_takesHead_72 : decode cX9_takesHead 72 = .ok (.iload_n 1, 1) := by decide +kernel
theorem dX9_takesHead_73 : decode cX9_takesHead 73 = .ok (.iconst 2, 1) := by decide +kernel
theorem dX9_takesHead_74 : decode cX9_takesHead 74 = .ok (.iastore, 1) := by decide +kernel
theorem dX9_takesHead_75 : decode cX9_takesHead 75 = .ok (.aload_n 0, 1) := by decide +kernel
theorem dX9_takesHead_76 : decode cX9_takesHead 76 = .ok (.bipush 8, 2) := by decide +kernel
theorem dX9_takesHead_78 : decode cX9_takesHead 78 = .ok (.iconst 4, 1) := by decide +kernel
theorem dX9_takesHead_79 : decode cX9_takesHead 79 = .ok (.invokevirtual 350, 3) := by decide +kernel
theorem dX9_takesHead_82 : decode cX9_takesHead 82 = .ok (.ireturn, 1) := by decide +kernel
theorem dX9_takesHead_83 : decode cX9_takesHead 83 = .ok (.aload_n 0, 1) := by decide +kernel
theorem dX9_takesHead_84 : decode cX9_takesHead 84 = .ok (.getfield 80, 3) := by decide +kernel
theorem dX9_takesHead_87 : decode cX9_takesHead 87 = .ok (.iload_n 1, 1) := by decide +kernel
theorem dX9_takesHead_88 : decode cX9_takesHead 88 = .ok (.iconst 3, 1) := by decide +kernel
theorem dX9_takesHead_89 : decode cX9_takesHead 89 = .ok (.iastore, 1) := by decide +kernel
theorem dX9_takesHead_90 : decode cX9_takesHead 90 = .ok (.aload_n 0, 1) := by decide +kernel
theorem dX9_takesHead_91 : decode cX9_takesHead 91 = .ok (.bipush 12, 2) := by decide +kernel
theorem dX9_takesHead_93 : decode cX9_takesHead 93 = .ok (.iconst 4, 1) := by decide +kernel
theorem dX9_takesHead_94 : decode cX9_takesHead 94 = .ok (.invokevirtual 350, 3) := by decide +kernel
theorem dX9_takesHead_97 : decode cX9_takesHead 97 = .ok (.ireturn, 1) := by decide +kernel
theorem dX9_takesClause_0 : decode cX9_takesClause 0 = .ok (.aload_n 0, 1) := by decide +kernel
theorem dX9_takesClause_1 : decode cX9_takesClause 1 = .ok (.iload_n 1, 1) := by decide +kernel
theorem dX9_takesClause_2 : decode cX9_takesClause 2 = .ok (.invokevirtual 353, 3) := by decide +kernel
theorem dX9_takesClause_5 : decode cX9_takesClause 5 = .ok (.ifCond .eq 10, 3) := by decide +kernel
theorem dX9_takesClause_8 : decode cX9_takesClause 8 = .ok (.aload_n 0, 1) := by decide +kernel
theorem dX9_takesClause_9 : decode cX9_takesClause 9 = .ok (.invokevirtual 338, 3) := by decide +kernel
theorem dX9_takesClause_12 : decode cX9_takesClause 12 = .ok (.ifCond .ne 5, 3) := by decide +kernel
theorem dX9_takesClause_15 : decode cX9_takesClause 15 = .ok (.iconst 0, 1) := by decide +kernel
theorem dX9_takesClause_16 : decode cX9_takesClause 16 = .ok (.ireturn, 1) := by decide +kernel
theorem dX9_takesClause_17 : decode cX9_takesClause 17 = .ok (.aload_n 0, 1) := by decide +kernel
theorem dX9_takesClause_18 : decode cX9_takesClause 18 = .ok (.getfield 83, 3) := by decide +kernel
theorem dX9_takesClause_21 : decode cX9_takesClause 21 = .ok (.iload_n 1, 1) := by decide +kernel
theorem dX9_takesClause_22 : decode cX9_takesClause 22 = .ok (.aload_n 0, 1) := by decide +kernel
theorem dX9_takesClause_23 : decode cX9_takesClause 23 = .ok (.getfield 71, 3) := by decide +kernel
theorem dX9_takesClause_26 : decode cX9_takesClause 26 = .ok (.iastore, 1) := by decide +kernel
theorem dX9_takesClause_27 : decode cX9_takesClause 27 = .ok (.aload_n 0, 1) := by decide +kernel
theorem dX9_takesClause_28 : decode cX9_takesClause 28 = .ok (.getfield 80, 3) := by decide +kernel
theorem dX9_takesClause_31 : decode cX9_takesClause 31 = .ok (.iload_n 1, 1) := by decide +kernel
theorem dX9_takesClause_32 : decode cX9_takesClause 32 = .ok (.iaload, 1) := by decide +kernel
theorem dX9_takesClause_33 : decode cX9_takesClause 33 = .ok (.iconst 2, 1) := by decide +kernel
theorem dX9_takesClause_34 : decode cX9_takesClause 34 = .ok (.if_icmp .ge 20, 3) := by decide +kernel
theorem dX9_takesClause_37 : decode cX9_takesClause 37 = .ok (.aload_n 0, 1) := by decide +kernel
theorem dX9_takesClause_38 : decode cX9_takesClause 38 = .ok (.bipush 32, 2) := by decide +kernel
theorem dX9_takesClause_40 : decode cX9_takesClause 40 = .ok (.invokevirtual 323, 3) := by decide +kernel
theorem dX9_takesClause_43 : decode cX9_takesClause 43 = .ok (.ifCond .eq 15, 3) := by decide +kernel
theorem dX9_takesClause_46 : decode cX9_takesClause 46 = .ok (.aload_n 0, 1) := by decide +kernel
theorem dX9_takesClause_47 : decode cX9_takesClause 47 = .ok (.iload_n 1, 1) := by decide +kernel
theorem dX9_takesClause_48 : decode cX9_takesClause 48 = .ok (.invokevirtual 356, 3) := by decide +kernel
theorem dX9_takesClause_51 : decode cX9_takesClause 51 = .ok (.ifCond .eq 7, 3) := by decide +kernel
theorem dX9_takesClause_54 : decode cX9_takesClause 54 = .ok (.iconst 1, 1) := by decide +kernel
theorem dX9_takesClause_55 : decode cX9_takesClause 55 = .ok (.goto 4, 3) := by decide +kernel
theorem dX9_takesClause_58 : decode cX9_takesClause 58 = .ok (.iconst 0, 1) := by decide +kernel
theorem dX9_takesClause_59 : decode cX9_takesClause 59 = .ok (.ireturn, 1) := by decide +kernel
theorem dX9_goesText_0 : decode cX9_goesText 0 = .ok (.aload_n 0, 1) := by decide +kernel
theorem dX9_goesText_1 : decode cX9_goesText 1 = .ok (.iconst 0, 1) := by decide +kernel
theorem dX9_goesText_2 : decode cX9_goesText 2 = .ok (.putfield 68, 3) := by decide +kernel
theorem dX9_goesText_5 : decode cX9_goesText 5 = .ok (.aload_n 0, 1) := by decide +kernel
theorem dX9_goesText_6 : decode cX9_goesText 6 = .ok (.bipush 100, 2) := by decide +kernel
theorem dX9_goesText_8 : decode cX9_goesText 8 = .ok (.iload_n 1, 1) := by decide +kernel
theorem dX9_goesText_9 : decode cX9_goesText 9 = .ok (.imul, 1) := by decide +kernel
theorem dX9_goesText_10 : decode cX9_goesText 10 = .ok (.putfield 98, 3) := by decide +kernel
theorem dX9_goesText_13 : decode cX9_goesText 13 = .ok (.iconst 0, 1) := by decide +kernel
theorem dX9_goesText_14 : decode cX9_goesText 14 = .ok (.istore_n 2, 1) := by decide +kernel
theorem dX9_goesText_15 : decode cX9_goesText 15 = .ok (.aload_n 0, 1) := by decide +kernel
theorem dX9_goesText_16 : decode cX9_goesText 16 = .ok (.bipush 10, 2) := by decide +kernel
theorem dX9_goesText_18 : decode cX9_goesText 18 = .ok (.iload_n 1, 1) := by decide +kernel
theorem dX9_goesText_19 : decode cX9_goesText 19 = .ok (.imul, 1) := by decide +kernel
theorem dX9_goesText_20 : decode cX9_goesText 20 = .ok (.iload_n 2, 1) := by decide +kernel
theorem dX9_goesText_21 : decode cX9_goesText 21 = .ok (.iadd, 1) := by decide +kernel
theorem dX9_goesText_22 : decode cX9_goesText 22 = .ok (.invokevirtual 359, 3) := by decide +kernel
theorem dX9_goesText_25 : decode cX9_goesText 25 = .ok (.ifCond .ne 5, 3) := by decide +kernel
theorem dX9_goesText_28 : decode cX9_goesText 28 = .ok (.iconst 0, 1) := by decide +kernel
theorem dX9_goesText_29 : decode cX9_goesText 29 = .ok (.ireturn, 1) := by decide +kernel
theorem dX9_goesText_30 : decode cX9_goesText 30 = .ok (.iinc 2 1, 3) := by decide +kernel
theorem dX9_goesText_33 : decode cX9_goesText 33 = .ok (.aload_n 0, 1) := by decide +kernel
theorem dX9_goesText_34 : decode cX9_goesText 34 = .ok (.getfield 77, 3) := by decide +kernel
theorem dX9_goesText_37 : decode cX9_goesText 37 = .ok (.iload_n 1, 1) := by decide +kernel
theorem dX9_goesText_38 : decode cX9_goesText 38 = .ok (.iload_n 2, 1) := by decide +kernel
theorem dX9_goesText_39 : decode cX9_goesText 39 = .ok (.iastore, 1) := by decide +kernel
theorem dX9_goesText_40 : decode cX9_goesText 40 = .ok (.aload_n 0, 1) := by decide +kernel
theorem dX9_goesText_41 : decode cX9_goesText 41 = .ok (.getfield 68, 3) := by decide +kernel
theorem dX9_goesText_44 : decode cX9_goesText 44 = .ok (.aload_n 0, 1) := by decide +kernel
theorem dX9_goesText_45 : decode cX9_goesText 45 = .ok (.getfield 65, 3) := by decide +kernel
theorem dX9_goesText_48 : decode cX9_goesText 48 = .ok (.if_icmp .ne 5, 3) := by decide +kernel
theorem dX9_goesText_51 : decode cX9_goesText 51 = .ok (.iconst 1, 1) := by decide +kernel
theorem dX9_goesText_52 : decode cX9_goesText 52 = .ok (.ireturn, 1) := by decide +kernel
theorem dX9_goesText_53 : decode cX9_goesText 53 = .ok (.iload_n 2, 1) := by decide +kernel
theorem dX9_goesText_54 : decode cX9_goesText 54 = .ok (.bipush 10, 2) := by decide +kernel
theorem dX9_goesText_56 : decode cX9_goesText 56 = .ok (.if_icmp .eq 12, 3) := by decide +kernel
theorem dX9_goesText_59 : decode cX9_goesText 59 = .ok (.aload_n 0, 1) := by decide +kernel
theorem dX9_goesText_60 : decode cX9_goesText 60 = .ok (.bipush 59, 2) := by decide +kernel
theorem dX9_goesText_62 : decode cX9_goesText 62 = .ok (.invokevirtual 323, 3) := by decide +kernel
theorem dX9_goesText_65 : decode cX9_goesText 65 = .ok (.ifCond .ne (-50), 3) := by decide +kernel
theorem dX9_goesText_68 : decode cX9_goesText 68 = .ok (.iconst 0, 1) := by decide +kernel
theorem dX9_goesText_69 : decode cX9_goesText 69 = .ok (.ireturn, 1) := by decide +kernel
theorem dX9_dusk_0 : decode cX9_dusk 0 = .ok (.aload_n 0, 1) := by decide +kernel
theorem dX9_dusk_1 : decode cX9_dusk 1 = .ok (.getfield 59, 3) := by decide +kernel
theorem dX9_dusk_4 : decode cX9_dusk 4 = .ok (.bipush 6, 2) := by decide +kernel
theorem dX9_dusk_6 : decode cX9_dusk 6 = .ok (.if_icmp .ne 6, 3) := by decide +kernel
theorem dX9_dusk_9 : decode cX9_dusk 9 = .ok (.bipush (-4), 2) := by decide +kernel
theorem dX9_dusk_11 : decode cX9_dusk 11 = .ok (.ireturn, 1) := by decide +kernel
theorem dX9_dusk_12 : decode cX9_dusk 12 = .ok (.aload_n 0, 1) := by decide +kernel
theorem dX9_dusk_13 : decode cX9_dusk 13 = .ok (.aload_n 0, 1) := by decide +kernel
theorem dX9_dusk_14 : decode cX9_dusk 14 = .ok (.getfield 59, 3) := by decide +kernel
theorem dX9_dusk_17 : decode cX9_dusk 17 = .ok (.invokevirtual 362, 3) := by decide +kernel
theorem dX9_dusk_20 : decode cX9_dusk 20 = .ok (.istore_n 1, 1) := by decide +kernel
theorem dX9_dusk_21 : decode cX9_dusk 21 = .ok (.aload_n 0, 1) := by decide +kernel
theorem dX9_dusk_22 : decode cX9_dusk 22 = .ok (.iconst 0, 1) := by decide +kernel
theorem dX9_dusk_23 : decode cX9_dusk 23 = .ok (.putfield 65, 3) := by decide +kernel
theorem dX9_dusk_26 : decode cX9_dusk 26 = .ok (.iload_n 1, 1) := by decide +kernel
theorem dX9_dusk_27 : decode cX9_dusk 27 = .ok (.ifCond .ne 11, 3) := by decide +kernel
theorem dX9_dusk_30 : decode cX9_dusk 30 = .ok (.bipush (-10), 2) := by decide +kernel
theorem dX9_dusk_32 : decode cX9_dusk 32 = .ok (.aload_n 0, 1) := by decide +kernel
theorem dX9_dusk_33 : decode cX9_dusk 33 = .ok (.getfield 68, 3) := by decide +kernel
theorem dX9_dusk_36 : decode cX9_dusk 36 = .ok (.isub, 1) := by decide +kernel
theorem dX9_dusk_37 : decode cX9_dusk 37 = .ok (.ireturn, 1) := by decide +kernel
theorem dX9_dusk_38 : decode cX9_dusk 38 = .ok (.aload_n 0, 1) := by decide +kernel
theorem dX9_dusk_39 : decode cX9_dusk 39 = .ok (.aload_n 0, 1) := by decide +kernel
theorem dX9_dusk_40 : decode cX9_dusk 40 = .ok (.getfield 59, 3) := by decide +kernel
theorem dX9_dusk_43 : decode cX9_dusk 43 = .ok (.putfield 62, 3) := by decide +kernel
theorem dX9_dusk_46 : decode cX9_dusk 46 = .ok (.aload_n 0, 1) := by decide +kernel
theorem dX9_dusk_47 : decode cX9_dusk 47 = .ok (.dup, 1) := by decide +kernel
theorem dX9_dusk_48 : decode cX9_dusk 48 = .ok (.getfield 59, 3) := by decide +kernel
theorem dX9_dusk_51 : decode cX9_dusk 51 = .ok (.iconst 1, 1) := by decide +kernel
theorem dX9_dusk_52 : decode cX9_dusk 52 = .ok (.iadd, 1) := by decide +kernel
theorem dX9_dusk_53 : decode cX9_dusk 53 = .ok (.putfield 59, 3) := by decide +kernel
theorem dX9_dusk_56 : decode cX9_dusk 56 = .ok (.aload_n 0, 1) := by decide +kernel
theorem dX9_dusk_57 : decode cX9_dusk 57 = .ok (.getfield 62, 3) := by decide +kernel
theorem dX9_dusk_60 : decode cX9_dusk 60 = .ok (.ireturn, 1) := by decide +kernel
theorem dX9_begin_0 : decode cX9_begin 0 = .ok (.aload_n 0, 1) := by decide +kernel
theorem dX9_begin_1 : decode cX9_begin 1 = .ok (.getfield 62, 3) := by decide +kernel
theorem dX9_begin_4 : decode cX9_begin 4 = .ok (.ifCond .ge 7, 3) := by decide +kernel
theorem dX9_begin_7 : decode cX9_begin 7 = .ok (.iconst 0, 1) := by decide +kernel
theorem dX9_begin_8 : decode cX9_begin 8 = .ok (.goto 10, 3) := by decide +kernel
theorem dX9_begin_11 : decode cX9_begin 11 = .ok (.bipush 10, 2) := by decide +kernel
theorem dX9_begin_13 : decode cX9_begin 13 = .ok (.aload_n 0, 1) := by decide +kernel
theorem dX9_begin_14 : decode cX9_begin 14 = .ok (.getfield 62, 3) := by decide +kernel
theorem dX9_begin_17 : decode cX9_begin 17 = .ok (.imul, 1) := by decide +kernel
theorem dX9_begin_18 : decode cX9_begin 18 = .ok (.ireturn, 1) := by decide +kernel
theorem dX9_behind_0 : decode cX9_behind 0 = .ok (.aload_n 0, 1) := by decide +kernel
theorem dX9_behind_1 : decode cX9_behind 1 = .ok (.getfield 62, 3) := by decide +kernel
theorem dX9_behind_4 : decode cX9_behind 4 = .ok (.ifCond .ge 7, 3) := by decide +kernel
theorem dX9_behind_7 : decode cX9_behind 7 = .ok (.iconst 0, 1) := by decide +kernel
theorem dX9_behind_8 : decode cX9_behind 8 = .ok (.goto 20, 3) := by decide +kernel
theorem dX9_behind_11 : decode cX9_behind 11 = .ok (.bipush 10, 2) := by decide +kernel
theorem dX9_behind_13 : decode cX9_behind 13 = .ok (.aload_n 0, 1) := by decide +kernel
theorem dX9_behind_14 : decode cX9_behind 14 = .ok (.getfield 62, 3) := by decide +kernel
theorem dX9_behind_17 : decode cX9_behind 17 = .ok (.imul, 1) := by decide +kernel
theorem dX9_behind_18 : decode cX9_behind 18 = .ok (.aload_n 0, 1) := by decide +kernel
theorem dX9_behind_19 : decode cX9_behind 19 = .ok (.getfield 77, 3) := by decide +kernel
theorem dX9_behind_22 : decode cX9_behind 22 = .ok (.aload_n 0, 1) := by decide +kernel
theorem dX9_behind_23 : decode cX9_behind 23 = .ok (.getfield 62, 3) := by decide +kernel
theorem dX9_behind_26 : decode cX9_behind 26 = .ok (.iaload, 1) := by decide +kernel
theorem dX9_behind_27 : decode cX9_behind 27 = .ok (.iadd, 1) := by decide +kernel
theorem dX9_behind_28 : decode cX9_behind 28 = .ok (.ireturn, 1) := by decide +kernel
theorem dX9_lastOf_0 : decode cX9_lastOf 0 = .ok (.iload_n 2, 1) := by decide +kernel
theorem dX9_lastOf_1 : decode cX9_lastOf 1 = .ok (.istore_n 3, 1) := by decide +kernel
theorem dX9_lastOf_2 : decode cX9_lastOf 2 = .ok (.aload_n 0, 1) := by decide +kernel
theorem dX9_lastOf_3 : decode cX9_lastOf 3 = .ok (.invokevirtual 365, 3) := by decide +kernel
theorem dX9_lastOf_6 : decode cX9_lastOf 6 = .ok (.istore 4, 2) := by decide +kernel
theorem dX9_lastOf_8 : decode cX9_lastOf 8 = .ok (.iload 4, 2) := by decide +kernel
theorem dX9_lastOf_10 : decode cX9_lastOf 10 = .ok (.aload_n 0, 1) := by decide +kernel
theorem dX9_lastOf_11 : decode cX9_lastOf 11 = .ok (.invokevirtual 368, 3) := by decide +kernel
theorem dX9_lastOf_14 : decode cX9_lastOf 14 = .ok (.if_icmp .ge 32, 3) := by decide +kernel
theorem dX9_lastOf_17 : decode cX9_lastOf 17 = .ok (.aload_n 0, 1) := by decide +kernel
theorem dX9_lastOf_18 : decode cX9_lastOf 18 = .ok (.getfield 80, 3) := by decide +kernel
theorem dX9_lastOf_21 : decode cX9_lastOf 21 = .ok (.iload 4, 2) := by decide +kernel
theorem dX9_lastOf_23 : decode cX9_lastOf 23 = .ok (.iaload, 1) := by decide +kernel
theorem dX9_lastOf_24 : decode cX9_lastOf 24 = .ok (.iload_n 1, 1) := by decide +kernel
theorem dX9_lastOf_25 : decode cX9_lastOf 25 = .ok (.if_icmp .ne 13, 3) := by decide +kernel
theorem dX9_lastOf_28 : decode cX9_lastOf 28 = .ok (.aload_n 0, 1) := by decide +kernel
theorem dX9_lastOf_29 : decode cX9_lastOf 29 = .ok (.getfield 83, 3) := by decide +kernel
theorem dX9_lastOf_32 : decode cX9_lastOf 32 = .ok (.iload 4, 2) := by decide +kernel
theorem dX9_lastOf_34 : decode cX9_lastOf 34 = .ok (.iaload, 1) := by decide +kernel
theorem dX9_lastOf_35 : decode cX9_lastOf 35 = .ok (.goto 4, 3) := by decide +kernel
theorem dX9_lastOf_38 : decode cX9_lastOf 38 = .ok (.iload_n 3, 1) := by decide +kernel
theorem dX9_lastOf_39 : decode cX9_lastOf 39 = .ok (.istore_n 3, 1) := by decide +kernel
theorem dX9_lastOf_40 : decode cX9_lastOf 40 = .ok (.iinc 4 1, 3) := by decide +kernel
theorem dX9_lastOf_43 : decode cX9_lastOf 43 = .ok (.goto (-35), 3) := by decide +kernel
theorem dX9_lastOf_46 : decode cX9_lastOf 46 = .ok (.iload_n 3, 1) := by decide +kernel
theorem dX9_lastOf_47 : decode cX9_lastOf 47 = .ok (.ireturn, 1) := by decide +kernel
theorem dX9_pace_0 : decode cX9_pace 0 = .ok (.aload_n 0, 1) := by decide +kernel
theorem dX9_pace_1 : decode cX9_pace 1 = .ok (.getfield 110, 3) := by decide +kernel
theorem dX9_pace_4 : decode cX9_pace 4 = .ok (.ifCond .lt 10, 3) := by decide +kernel
theorem dX9_pace_7 : decode cX9_pace 7 = .ok (.aload_n 0, 1) := by decide +kernel
theorem dX9_pace_8 : decode cX9_pace 8 = .ok (.getfield 110, 3) := by decide +kernel
theorem dX9_pace_11 : decode cX9_pace 11 = .ok (.goto 9, 3) := by decide +kernel
theorem dX9_pace_14 : decode cX9_pace 14 = .ok (.aload_n 0, 1) := by decide +kernel
theorem dX9_pace_15 : decode cX9_pace 15 = .ok (.iconst 3, 1) := by decide +kernel
theorem dX9_pace_16 : decode cX9_pace 16 = .ok (.iconst 3, 1) := by decide +kernel
theorem dX9_pace_17 : decode cX9_pace 17 = .ok (.invokevirtual 371, 3) := by decide +kernel
theorem dX9_pace_20 : decode cX9_pace 20 = .ok (.istore_n 1, 1) := by decide +kernel
theorem dX9_pace_21 : decode cX9_pace 21 = .ok (.iload_n 1, 1) := by decide +kernel
theorem dX9_pace_22 : decode cX9_pace 22 = .ok (.iconst 1, 1) := by decide +kernel
theorem dX9_pace_23 : decode cX9_pace 23 = .ok (.if_icmp .ge 7, 3) := by decide +kernel
theorem dX9_pace_26 : decode cX9_pace 26 = .ok (.iconst 1, 1) := by decide +kernel
theorem dX9_pace_27 : decode cX9_pace 27 = .ok (.goto 15, 3) := by decide +kernel
theorem dX9_pace_30 : decode cX9_pace 30 = .ok (.iload_n 1, 1) := by decide +kernel
theorem dX9_pace_31 : decode cX9_pace 31 = .ok (.bipush 9, 2) := by decide +kernel
theorem dX9_pace_33 : decode cX9_pace 33 = .ok (.if_icmp .le 8, 3) := by decide +kernel
theorem dX9_pace_36 : decode cX9_pace 36 = .ok (.bipush 9, 2) := by decide +kernel
theorem dX9_pace_38 : decode cX9_pace 38 = .ok (.goto 4, 3) := by decide +kernel
theorem dX9_pace_41 : decode cX9_pace 41 = .ok (.iload_n 1, 1) := by decide +kernel
theorem dX9_pace_42 : decode cX9_pace 42 = .ok (.ireturn, 1) := by decide +kernel
theorem dX9_factOf_0 : decode cX9_factOf 0 = .ok (.iload_n 1, 1) := by decide +kernel
theorem dX9_factOf_1 : decode cX9_factOf 1 = .ok (.tableswitch 69 0 4 #[35, 37, 44, 51, 58], 35) := by decide +kernel
theorem dX9_factOf_36 : decode cX9_factOf 36 = .ok (.iload_n 2, 1) := by decide +kernel
theorem dX9_factOf_37 : decode cX9_factOf 37 = .ok (.ireturn, 1) := by decide +kernel
theorem dX9_factOf_38 : decode cX9_factOf 38 = .ok (.aload_n 0, 1) := by decide +kernel
theorem dX9_factOf_39 : decode cX9_factOf 39 = .ok (.getfield 41, 3) := by decide +kernel
theorem dX9_factOf_42 : decode cX9_factOf 42 = .ok (.iload_n 2, 1) := by decide +kernel
theorem dX9_factOf_43 : decode cX9_factOf 43 = .ok (.iaload, 1) := by decide +kernel
theorem dX9_factOf_44 : decode cX9_factOf 44 = .ok (.ireturn, 1) := by decide +kernel
theorem dX9_factOf_45 : decode cX9_factOf 45 = .ok (.aload_n 0, 1) := by decide +kernel
theorem dX9_factOf_46 : decode cX9_factOf 46 = .ok (.getfield 44, 3) := by decide +kernel
theorem dX9_factOf_49 : decode cX9_factOf 49 = .ok (.iload_n 2, 1) := by decide +kernel
theorem dX9_factOf_50 : decode cX9_factOf 50 = .ok (.iaload, 1) := by decide +kernel
theorem dX9_factOf_51 : decode cX9_factOf 51 = .ok (.ireturn, 1) := by decide +kernel
theorem dX9_factOf_52 : decode cX9_factOf 52 = .ok (.aload_n 0, 1) := by decide +kernel
theorem dX9_factOf_53 : decode cX9_factOf 53 = .ok (.getfield 47, 3) := by decide +kernel
theorem dX9_factOf_56 : decode cX9_factOf 56 = .ok (.iload_n 2, 1) := by decide +kernel
theorem dX9_factOf_57 : decode cX9_factOf 57 = .ok (.iaload, 1) := by decide +kernel
theorem dX9_factOf_58 : decode cX9_factOf 58 = .ok (.ireturn, 1) := by decide +kernel
theorem dX9_factOf_59 : decode cX9_factOf 59 = .ok (.aload_n 0, 1) := by decide +kernel
theorem dX9_factOf_60 : decode cX9_factOf 60 = .ok (.aload_n 0, 1) := by decide +kernel
theorem dX9_factOf_61 : decode cX9_factOf 61 = .ok (.getfield 50, 3) := by decide +kernel
theorem dX9_factOf_64 : decode cX9_factOf 64 = .ok (.iload_n 2, 1) := by decide +kernel
theorem dX9_factOf_65 : decode cX9_factOf 65 = .ok (.iaload, 1) := by decide +kernel
theorem dX9_factOf_66 : decode cX9_factOf 66 = .ok (.invokevirtual 375, 3) := by decide +kernel
theorem dX9_factOf_69 : decode cX9_factOf 69 = .ok (.ireturn, 1) := by decide +kernel
theorem dX9_factOf_70 : decode cX9_factOf 70 = .ok (.aload_n 0, 1) := by decide +kernel
theorem dX9_factOf_71 : decode cX9_factOf 71 = .ok (.getfield 16, 3) := by decide +kernel
theorem dX9_factOf_74 : decode cX9_factOf 74 = .ok (.bipush 10, 2) := by decide +kernel
theorem dX9_factOf_76 : decode cX9_factOf 76 = .ok (.irem, 1) := by decide +kernel
theorem dX9_factOf_77 : decode cX9_factOf 77 = .ok (.ireturn, 1) := by decide +kernel
theorem dX9_holds_0 : decode cX9_holds 0 = .ok (.iconst 0, 1) := by decide +kernel
theorem dX9_holds_1 : decode cX9_holds 1 = .ok (.istore_n 3, 1) := by decide +kernel
theorem dX9_holds_2 : decode cX9_holds 2 = .ok (.aload_n 0, 1) := by decide +kernel
theorem dX9_holds_3 : decode cX9_holds 3 = .ok (.getfield 86, 3) := by decide +kernel
theorem dX9_holds_6 : decode cX9_holds 6 = .ok (.iload_n 1, 1) := by decide +kernel
theorem dX9_holds_7 : decode cX9_holds 7 = .ok (.iaload, 1) := by decide +kernel
theorem dX9_holds_8 : decode cX9_holds 8 = .ok (.istore 4, 2) := by decide +kernel
theorem dX9_holds_10 : decode cX9_holds 10 = .ok (.iload 4, 2) := by decide +kernel
theorem dX9_holds_12 : decode cX9_holds 12 = .ok (.aload_n 0, 1) := by decide +kernel
theorem dX9_holds_13 : decode cX9_holds 13 = .ok (.getfield 89, 3) := by decide +kernel
theorem dX9_holds_16 : decode cX9_holds 16 = .ok (.iload_n 1, 1) := by decide +kernel
theorem dX9_holds_17 : decode cX9_holds 17 = .ok (.iaload, 1) := by decide +kernel
theorem dX9_holds_18 : decode cX9_holds 18 = .ok (.if_icmp .ge 225, 3) := by decide +kernel
theorem dX9_holds_21 : decode cX9_holds 21 = .ok (.aload_n 0, 1) := by decide +kernel
theorem dX9_holds_22 : decode cX9_holds 22 = .ok (.getfield 92, 3) := by decide +kernel
theorem dX9_holds_25 : decode cX9_holds 25 = .ok (.iload 4, 2) := by decide +kernel
theorem dX9_holds_27 : decode cX9_holds 27 = .ok (.iaload, 1) := by decide +kernel
theorem dX9_holds_28 : decode cX9_holds 28 = .ok (.istore 5, 2) := by decide +kernel
theorem dX9_holds_30 : decode cX9_holds 30 = .ok (.iload 5, 2) := by decide +kernel
theorem dX9_holds_32 : decode cX9_holds 32 = .ok (.bipush (-33), 2) := by decide +kernel
theorem dX9_holds_34 : decode cX9_holds 34 = .ok (.if_icmp .ne 30, 3) := by decide +kernel
theorem dX9_holds_37 : decode cX9_holds 37 = .ok (.aload_n 0, 1) := by decide +kernel
theorem dX9_holds_38 : decode cX9_holds 38 = .ok (.getfield 119, 3) := by decide +kernel
theorem dX9_holds_41 : decode cX9_holds 41 = .ok (.iload_n 3, 1) := by decide +kernel
theorem dX9_holds_42 : decode cX9_holds 42 = .ok (.iconst 1, 1) := by decide +kernel
theorem dX9_holds_43 : decode cX9_holds 43 = .ok (.isub, 1) := by decide +kernel
theorem dX9_holds_44 : decode cX9_holds 44 = .ok (.aload_n 0, 1) := by decide +kernel
theorem dX9_holds_45 : decode cX9_holds 45 = .ok (.getfield 119, 3) := by decide +kernel
theorem dX9_holds_48 : decode cX9_holds 48 = .ok (.iload_n 3, 1) := by decide +kernel
theorem dX9_holds_49 : decode cX9_holds 49 = .ok (.iconst 1, 1) := by decide +kernel
theorem dX9_holds_50 : decode cX9_holds 50 = .ok (.isub, 1) := by decide +kernel
theorem dX9_holds_51 : decode cX9_holds 51 = .ok (.baload, 1) := by decide +kernel
theorem dX9_holds_52 : decode cX9_holds 52 = .ok (.ifCond .ne 7, 3) := by decide +kernel
theorem dX9_holds_55 : decode cX9_holds 55 = .ok (.iconst 1, 1) := by decide +kernel
theorem dX9_holds_56 : decode cX9_holds 56 = .ok (.goto 4, 3) := by decide +kernel
theorem dX9_holds_59 : decode cX9_holds 59 = .ok (.iconst 0, 1) := by decide +kernel
theorem dX9_holds_60 : decode cX9_holds 60 = .ok (.bastore, 1) := by decide +kernel
theorem dX9_holds_61 : decode cX9_holds 61 = .ok (.goto 176, 3) := by decide +kernel
theorem dX9_holds_64 : decode cX9_holds 64 = .ok (.iload 5, 2) := by decide +kernel
theorem dX9_holds_66 : decode cX9_holds 66 = .ok (.ifCond .ge 77, 3) := by decide +kernel
theorem dX9_holds_69 : decode cX9_holds 69 = .ok (.iinc 3 (-1), 3) := by decide +kernel
theorem dX9_holds_72 : decode cX9_holds 72 = .ok (.aload_n 0, 1) := by decide +kernel
theorem dX9_holds_73 : decode cX9_holds 73 = .ok (.getfield 119, 3) := by decide +kernel
theorem dX9_holds_76 : decode cX9_holds 76 = .ok (.iload_n 3, 1) := by decide +kernel
theorem dX9_holds_77 : decode cX9_holds 77 = .ok (.iconst 1, 1) := by decide +kernel
theorem dX9_holds_78 : decode cX9_holds 78 = .ok (.isub, 1) := by decide +kernel
theorem dX9_holds_79 : decode cX9_holds 79 = .ok (.iload 5, 2) := by decide +kernel
theorem dX9_holds_81 : decode cX9_holds 81 = .ok (.bipush (-38), 2) := by decide +kernel
theorem dX9_holds_83 : decode cX9_holds 83 = .ok (.if_icmp .ne 31, 3) := by decide +kernel
theorem dX9_holds_86 : decode cX9_holds 86 = .ok (.aload_n 0, 1) := by decide +kernel
theorem dX9_holds_87 : decode cX9_holds 87 = .ok (.getfield 119, 3) := by decide +kernel
theorem dX9_holds_90 : decode cX9_holds 90 = .ok (.iload_n 3, 1) := by decide +kernel
theorem dX9_holds_91 : decode cX9_holds 91 = .ok (.iconst 1, 1) := by decide +kernel
theorem dX9_holds_92 : decode cX9_holds 92 = .ok (.isub, 1) := by decide +kernel
theorem dX9_holds_93 : decode cX9_holds 93 = .ok (.baload, 1) := by decide +kernel
theorem dX9_holds_94 : decode cX9_holds 94 = .ok (.ifCond .eq 16, 3) := by decide +kernel
theorem dX9_holds_97 : decode cX9_holds 97 = .ok (.aload_n 0, 1) := by decide +kernel
theorem dX9_holds_98 : decode cX9_holds 98 = .ok (.getfield 119, 3) := by decide +kernel
theorem dX9_holds_101 : decode cX9_holds 101 = .ok (.iload_n 3, 1) := by decide +kernel
theorem dX9_holds_102 : decode cX9_holds 102 = .ok (.baload, 1) := by decide +kernel
theorem dX9_holds_103 : decode cX9_holds 103 = .ok (.ifCond .eq 7, 3) := by decide +kernel
theorem dX9_holds_106 : decode cX9_holds 106 = .ok (.iconst 1, 1) := by decide +kernel
theorem dX9_holds_107 : decode cX9_holds 107 = .ok (.goto 32, 3) := by decide +kernel
theorem dX9_holds_110 : decode cX9_holds 110 = .ok (.iconst 0, 1) := by decide +kernel
theorem dX9_holds_111 : decode cX9_holds 111 = .ok (.goto 28, 3) := by decide +kernel
theorem dX9_holds_114 : decode cX9_holds 114 = .ok (.aload_n 0, 1) := by decide +kernel
theorem dX9_holds_115 : decode cX9_holds 115 = .ok (.getfield 119, 3) := by decide +kernel
theorem dX9_holds_118 : decode cX9_holds 118 = .ok (.iload_n 3, 1) := by decide +kernel
theorem dX9_holds_119 : decode cX9_holds 119 = .ok (.iconst 1, 1) := by decide +kernel
theorem dX9_holds_120 : decode cX9_holds 120 = .ok (.isub, 1) := by decide +kernel
theorem dX9_holds_121 : decode cX9_holds 121 = .ok (.baload, 1) := by decide +kernel
theorem dX9_holds_122 : decode cX9_holds 122 = .ok (.ifCond .ne 12, 3) := by decide +kernel
theorem dX9_holds_125 : decode cX9_holds 125 = .ok (.aload_n 0, 1) := by decide +kernel
theorem dX9_holds_126 : decode cX9_holds 126 = .ok (.getfield 119, 3) := by decide +kernel
theorem dX9_holds_129 : decode cX9_holds 129 = .ok (.iload_n 3, 1) := by decide +kernel
theorem dX9_holds_130 : decode cX9_holds 130 = .ok (.baload, 1) := by decide +kernel
theorem dX9_holds_131 : decode cX9_holds 131 = .ok (.ifCond .eq 7, 3) := by decide +kernel
theorem dX9_holds_134 : decode cX9_holds 134 = .ok (.iconst 1, 1) := by decide +kernel
theorem dX9_holds_135 : decode cX9_holds 135 = .ok (.goto 4, 3) := by decide +kernel
theorem dX9_holds_138 : decode cX9_holds 138 = .ok (.iconst 0, 1) := by decide +kernel
theorem dX9_holds_139 : decode cX9_holds 139 = .ok (.bastore, 1) := by decide +kernel
theorem dX9_holds_140 : decode cX9_holds 140 = .ok (.goto 97, 3) := by decide +kernel
theorem dX9_holds_143 : decode cX9_holds 143 = .ok (.aload_n 0, 1) := by decide +kernel
theorem dX9_holds_144 : decode cX9_holds 144 = .ok (.iload 5, 2) := by decide +kernel
theorem dX9_holds_146 : decode cX9_holds 146 = .ok (.sipush 1000, 3) := by decide +kernel
theorem dX9_holds_149 : decode cX9_holds 149 = .ok (.idiv, 1) := by decide +kernel
theorem dX9_holds_150 : decode cX9_holds 150 = .ok (.iload_n 2, 1) := by decide +kernel
theorem dX9_holds_151 : decode cX9_holds 151 = .ok (.invokevirtual 378, 3) := by decide +kernel
theorem dX9_holds_154 : decode cX9_holds 154 = .ok (.istore 6, 2) := by decide +kernel
theorem dX9_holds_156 : decode cX9_holds 156 = .ok (.iload 5, 2) := by decide +kernel
theorem dX9_holds_158 : decode cX9_holds 158 = .ok (.bipush 100, 2) := by decide +kernel
theorem dX9_holds_160 : decode cX9_holds 160 = .ok (.idiv, 1) := by decide +kernel
theorem dX9_holds_161 : decode cX9_holds 161 = .ok (.bipush 10, 2) := by decide +kernel
theorem dX9_holds_163 : decode cX9_holds 163 = .ok (.irem, 1) := by decide +kernel
theorem dX9_holds_164 : decode cX9_holds 164 = .ok (.istore 7, 2) := by decide +kernel
theorem dX9_holds_166 : decode cX9_holds 166 = .ok (.aload_n 0, 1) := by decide +kernel
theorem dX9_holds_167 : decode cX9_holds 167 = .ok (.getfield 119, 3) := by decide +kernel
theorem dX9_holds_170 : decode cX9_holds 170 = .ok (.iload_n 3, 1) := by decide +kernel
theorem dX9_holds_171 : decode cX9_holds 171 = .ok (.iload 7, 2) := by decide +kernel
theorem dX9_holds_173 : decode cX9_holds 173 = .ok (.ifCond .ne 21, 3) := by decide +kernel
theorem dX9_holds_176 : decode cX9_holds 176 = .ok (.iload 6, 2) := by decide +kernel
theorem dX9_holds_178 : decode cX9_holds 178 = .ok (.iload 5, 2) := by decide +kernel
theorem dX9_holds_180 : decode cX9_holds 180 = .ok (.bipush 100, 2) := by decide +kernel
theorem dX9_holds_182 : decode cX9_holds 182 = .ok (.irem, 1) := by decide +kernel
theorem dX9_holds_183 : decode cX9_holds 183 = .ok (.if_icmp .ge 7, 3) := by decide +kernel
theorem dX9_holds_186 : decode cX9_holds 186 = .ok (.iconst 1, 1) := by decide +kernel
theorem dX9_holds_187 : decode cX9_holds 187 = .ok (.goto 46, 3) := by decide +kernel
theorem dX9_holds_190 : decode cX9_holds 190 = .ok (.iconst 0, 1) := by decide +kernel
theorem dX9_holds_191 : decode cX9_holds 191 = .ok (.goto 42, 3) := by decide +kernel
theorem dX9_holds_194 : decode cX9_holds 194 = .ok (.iload 7, 2) := by decide +kernel
theorem dX9_holds_196 : decode cX9_holds 196 = .ok (.iconst 1, 1) := by decide +kernel
theorem dX9_holds_197 : decode cX9_holds 197 = .ok (.if_icmp .ne 21, 3) := by decide +kernel
theorem dX9_holds_200 : decode cX9_holds 200 = .ok (.iload 6, 2) := by decide +kernel
theorem dX9_holds_202 : decode cX9_holds 202 = .ok (.iload 5, 2) := by decide +kernel
theorem dX9_holds_204 : decode cX9_holds 204 = .ok (.bipush 100, 2) := by decide +kernel
theorem dX9_holds_206 : decode cX9_holds 206 = .ok (.irem, 1) := by decide +kernel
theorem dX9_holds_207 : decode cX9_holds 207 = .ok (.if_icmp .ne 7, 3) := by decide +kernel
theorem dX9_holds_210 : decode cX9_holds 210 = .ok (.iconst 1, 1) := by decide +kernel
theorem dX9_holds_211 : decode cX9_holds 211 = .ok (.goto 22, 3) := by decide +kernel
theorem dX9_holds_214 : decode cX9_holds 214 = .ok (.iconst 0, 1) := by decide +kernel
theorem dX9_holds_215 : decode cX9_holds 215 = .ok (.goto 18, 3) := by decide +kernel
theorem dX9_holds_218 : decode cX9_holds 218 = .ok (.iload 6, 2) := by decide +kernel
theorem dX9_holds_220 : decode cX9_holds 220 = .ok (.iload 5, 2) := by decide +kernel
theorem dX9_holds_222 : decode cX9_holds 222 = .ok (.bipush 100, 2) := by decide +kernel
theorem dX9_holds_224 : decode cX9_holds 224 = .ok (.irem, 1) := by decide +kernel
theorem dX9_holds_225 : decode cX9_holds 225 = .ok (.if_icmp .le 7, 3) := by decide +kernel
theorem dX9_holds_228 : decode cX9_holds 228 = .ok (.iconst 1, 1) := by decide +kernel
theorem dX9_holds_229 : decode cX9_holds 229 = .ok (.goto 4, 3) := by decide +kernel
theorem dX9_holds_232 : decode cX9_holds 232 = .ok (.iconst 0, 1) := by decide +kernel
theorem dX9_holds_233 : decode cX9_holds 233 = .ok (.bastore, 1) := by decide +kernel
theorem dX9_holds_234 : decode cX9_holds 234 = .ok (.iinc 3 1, 3) := by decide +kernel
theorem dX9_holds_237 : decode cX9_holds 237 = .ok (.iinc 4 1, 3) := by decide +kernel
theorem dX9_holds_240 : decode cX9_holds 240 = .ok (.goto (-230), 3) := by decide +kernel
theorem dX9_holds_243 : decode cX9_holds 243 = .ok (.aload_n 0, 1) := by decide +kernel
theorem dX9_holds_244 : decode cX9_holds 244 = .ok (.getfield 119, 3) := by decide +kernel
theorem dX9_holds_247 : decode cX9_holds 247 = .ok (.iconst 0, 1) := by decide +kernel
theorem dX9_holds_248 : decode cX9_holds 248 = .ok (.baload, 1) := by decide +kernel
theorem dX9_holds_249 : decode cX9_holds 249 = .ok (.ireturn, 1) := by decide +kernel
theorem dX9_ears_0 : decode cX9_ears 0 = .ok (.iconst 0, 1) := by decide +kernel
theorem dX9_ears_1 : decode cX9_ears 1 = .ok (.istore_n 2, 1) := by decide +kernel
theorem dX9_ears_2 : decode cX9_ears 2 = .ok (.aload_n 0, 1) := by decide +kernel
theorem dX9_ears_3 : decode cX9_ears 3 = .ok (.invokevirtual 365, 3) := by decide +kernel
theorem dX9_ears_6 : decode cX9_ears 6 = .ok (.istore_n 3, 1) := by decide +kernel
theorem dX9_ears_7 : decode cX9_ears 7 = .ok (.iload_n 3, 1) := by decide +kernel
theorem dX9_ears_8 : decode cX9_ears 8 = .ok (.aload_n 0, 1) := by decide +kernel
theorem dX9_ears_9 : decode cX9_ears 9 = .ok (.invokevirtual 368, 3) := by decide +kernel
theorem dX9_ears_12 : decode cX9_ears 12 = .ok (.if_icmp .ge 59, 3) := by decide +kernel
theorem dX9_ears_15 : decode cX9_ears 15 = .ok (.aload_n 0, 1) := by decide +kernel
theorem dX9_ears_16 : decode cX9_ears 16 = .ok (.getfield 80, 3) := by decide +kernel
theorem dX9_ears_19 : decode cX9_ears 19 = .ok (.iload_n 3, 1) := by decide +kernel
theorem dX9_ears_20 : decode cX9_ears 20 = .ok (.iaload, 1) := by decide +kernel
theorem dX9_ears_21 : decode cX9_ears 21 = .ok (.iconst 1, 1) := by decide +kernel
theorem dX9_ears_22 : decode cX9_ears 22 = .ok (.if_icmp .gt 43, 3) := by decide +kernel
theorem dX9_ears_25 : decode cX9_ears 25 = .ok (.aload_n 0, 1) := by decide +kernel
theorem dX9_ears_26 : decode cX9_ears 26 = .ok (.iload_n 3, 1) := by decide +kernel
theorem dX9_ears_27 : decode cX9_ears 27 = .ok (.iload_n 1, 1) := by decide +kernel
theorem dX9_ears_28 : decode cX9_ears 28 = .ok (.invokevirtual 381, 3) := by decide +kernel
theorem dX9_ears_31 : decode cX9_ears 31 = .ok (.ifCond .ne 6, 3) := by decide +kernel
theorem dX9_ears_34 : decode cX9_ears 34 = .ok (.goto 31, 3) := by decide +kernel
theorem dX9_ears_37 : decode cX9_ears 37 = .ok (.iload_n 2, 1) := by decide +kernel
theorem dX9_ears_38 : decode cX9_ears 38 = .ok (.aload_n 0, 1) := by decide +kernel
theorem dX9_ears_39 : decode cX9_ears 39 = .ok (.getfield 80, 3) := by decide +kernel
theorem dX9_ears_42 : decode cX9_ears 42 = .ok (.iload_n 3, 1) := by decide +kernel
theorem dX9_ears_43 : decode cX9_ears 43 = .ok (.iaload, 1) := by decide +kernel
theorem dX9_ears_44 : decode cX9_ears 44 = .ok (.ifCond .ne 12, 3) := by decide +kernel
theorem dX9_ears_47 : decode cX9_ears 47 = .ok (.aload_n 0, 1) := by decide +kernel
theorem dX9_ears_48 : decode cX9_ears 48 = .ok (.getfield 83, 3) := by decide +kernel
theorem dX9_ears_51 : decode cX9_ears 51 = .ok (.iload_n 3, 1) := by decide +kernel
theorem dX9_ears_52 : decode cX9_ears 52 = .ok (.iaload, 1) := by decide +kernel
theorem dX9_ears_53 : decode cX9_ears 53 = .ok (.goto 10, 3) := by decide +kernel
theorem dX9_ears_56 : decode cX9_ears 56 = .ok (.aload_n 0, 1) := by decide +kernel
theorem dX9_ears_57 : decode cX9_ears 57 = .ok (.getfield 83, 3) := by decide +kernel
theorem dX9_ears_60 : decode cX9_ears 60 = .ok (.iload_n 3, 1) := by decide +kernel
theorem dX9_ears_61 : decode cX9_ears 61 = .ok (.iaload, 1) := by decide +kernel
theorem dX9_ears_62 : decode cX9_ears 62 = .ok (.ineg, 1) := by decide +kernel
theorem dX9_ears_63 : decode cX9_ears 63 = .ok (.iadd, 1) := by decide +kernel
theorem dX9_ears_64 : decode cX9_ears 64 = .ok (.istore_n 2, 1) := by decide +kernel
theorem dX9_ears_65 : decode cX9_ears 65 = .ok (.iinc 3 1, 3) := by decide +kernel
theorem dX9_ears_68 : decode cX9_ears 68 = .ok (.goto (-61), 3) := by decide +kernel
theorem dX9_ears_71 : decode cX9_ears 71 = .ok (.iload_n 2, 1) := by decide +kernel
theorem dX9_ears_72 : decode cX9_ears 72 = .ok (.ireturn, 1) := by decide +kernel
theorem dX9_up_0 : decode cX9_up 0 = .ok (.iload_n 2, 1) := by decide +kernel
theorem dX9_up_1 : decode cX9_up 1 = .ok (.iload_n 1, 1) := by decide +kernel
theorem dX9_up_2 : decode cX9_up 2 = .ok (.if_icmp .ge 12, 3) := by decide +kernel
theorem dX9_up_5 : decode cX9_up 5 = .ok (.iload_n 2, 1) := by decide +kernel
theorem dX9_up_6 : decode cX9_up 6 = .ok (.iload_n 1, 1) := by decide +kernel
theorem dX9_up_7 : decode cX9_up 7 = .ok (.isub, 1) := by decide +kernel
theorem dX9_up_8 : decode cX9_up 8 = .ok (.bipush 30, 2) := by decide +kernel
theorem dX9_up_10 : decode cX9_up 10 = .ok (.iadd, 1) := by decide +kernel
theorem dX9_up_11 : decode cX9_up 11 = .ok (.goto 6, 3) := by decide +kernel
theorem dX9_up_14 : decode cX9_up 14 = .ok (.iload_n 2, 1) := by decide +kernel
theorem dX9_up_15 : decode cX9_up 15 = .ok (.iload_n 1, 1) := by decide +kernel
theorem dX9_up_16 : decode cX9_up 16 = .ok (.isub, 1) := by decide +kernel
theorem dX9_up_17 : decode cX9_up 17 = .ok (.ireturn, 1) := by decide +kernel
theorem dX9_way_0 : decode cX9_way 0 = .ok (.aload_n 0, 1) := by decide +kernel
theorem dX9_way_1 : decode cX9_way 1 = .ok (.iload_n 1, 1) := by decide +kernel
theorem dX9_way_2 : decode cX9_way 2 = .ok (.iload_n 2, 1) := by decide +kernel
theorem dX9_way_3 : decode cX9_way 3 = .ok (.invokevirtual 384, 3) := by decide +kernel
theorem dX9_way_6 : decode cX9_way 6 = .ok (.istore_n 3, 1) := by decide +kernel
theorem dX9_way_7 : decode cX9_way 7 = .ok (.iload_n 3, 1) := by decide +kernel
theorem dX9_way_8 : decode cX9_way 8 = .ok (.bipush 15, 2) := by decide +kernel
theorem dX9_way_10 : decode cX9_way 10 = .ok (.if_icmp .le 10, 3) := by decide +kernel
theorem dX9_way_13 : decode cX9_way 13 = .ok (.bipush 30, 2) := by decide +kernel
theorem dX9_way_15 : decode cX9_way 15 = .ok (.iload_n 3, 1) := by decide +kernel
theorem dX9_way_16 : decode cX9_way 16 = .ok (.isub, 1) := by decide +kernel
theorem dX9_way_17 : decode cX9_way 17 = .ok (.goto 4, 3) := by decide +kernel
theorem dX9_way_20 : decode cX9_way 20 = .ok (.iload_n 3, 1) := by decide +kernel
theorem dX9_way_21 : decode cX9_way 21 = .ok (.ireturn, 1) := by decide +kernel
theorem dX9_toward_0 : decode cX9_toward 0 = .ok (.aload_n 0, 1) := by decide +kernel
theorem dX9_toward_1 : decode cX9_toward 1 = .ok (.iload_n 1, 1) := by decide +kernel
theorem dX9_toward_2 : decode cX9_toward 2 = .ok (.iload_n 2, 1) := by decide +kernel
theorem dX9_toward_3 : decode cX9_toward 3 = .ok (.invokevirtual 387, 3) := by decide +kernel
theorem dX9_toward_6 : decode cX9_toward 6 = .ok (.istore 4, 2) := by decide +kernel
theorem dX9_toward_8 : decode cX9_toward 8 = .ok (.iload_n 3, 1) := by decide +kernel
theorem dX9_toward_9 : decode cX9_toward 9 = .ok (.iload 4, 2) := by decide +kernel
theorem dX9_toward_11 : decode cX9_toward 11 = .ok (.if_icmp .ge 7, 3) := by decide +kernel
theorem dX9_toward_14 : decode cX9_toward 14 = .ok (.iload_n 3, 1) := by decide +kernel
theorem dX9_toward_15 : decode cX9_toward 15 = .ok (.goto 5, 3) := by decide +kernel
theorem dX9_toward_18 : decode cX9_toward 18 = .ok (.iload 4, 2) := by decide +kernel
theorem dX9_toward_20 : decode cX9_toward 20 = .ok (.istore 5, 2) := by decide +kernel
theorem dX9_toward_22 : decode cX9_toward 22 = .ok (.aload_n 0, 1) := by decide +kernel
theorem dX9_toward_23 : decode cX9_toward 23 = .ok (.iload_n 1, 1) := by decide +kernel
theorem dX9_toward_24 : decode cX9_toward 24 = .ok (.iload_n 2, 1) := by decide +kernel
theorem dX9_toward_25 : decode cX9_toward 25 = .ok (.invokevirtual 384, 3) := by decide +kernel
theorem dX9_toward_28 : decode cX9_toward 28 = .ok (.bipush 15, 2) := by decide +kernel
theorem dX9_toward_30 : decode cX9_toward 30 = .ok (.if_icmp .gt 13, 3) := by decide +kernel
theorem dX9_toward_33 : decode cX9_toward 33 = .ok (.iload_n 1, 1) := by decide +kernel
theorem dX9_toward_34 : decode cX9_toward 34 = .ok (.iload 5, 2) := by decide +kernel
theorem dX9_toward_36 : decode cX9_toward 36 = .ok (.iadd, 1) := by decide +kernel
theorem dX9_toward_37 : decode cX9_toward 37 = .ok (.bipush 30, 2) := by decide +kernel
theorem dX9_toward_39 : decode cX9_toward 39 = .ok (.irem, 1) := by decide +kernel
theorem dX9_toward_40 : decode cX9_toward 40 = .ok (.goto 13, 3) := by decide +kernel
theorem dX9_toward_43 : decode cX9_toward 43 = .ok (.iload_n 1, 1) := by decide +kernel
theorem dX9_toward_44 : decode cX9_toward 44 = .ok (.iload 5, 2) := by decide +kernel
theorem dX9_toward_46 : decode cX9_toward 46 = .ok (.isub, 1) := by decide +kernel
theorem dX9_toward_47 : decode cX9_toward 47 = .ok (.bipush 30, 2) := by decide +kernel
theorem dX9_toward_49 : decode cX9_toward 49 = .ok (.iadd, 1) := by decide +kernel
theorem dX9_toward_50 : decode cX9_toward 50 = .ok (.bipush 30, 2) := by decide +kernel
theorem dX9_toward_52 : decode cX9_toward 52 = .ok (.irem, 1) := by decide +kernel
theorem dX9_toward_53 : decode cX9_toward 53 = .ok (.ireturn, 1) := by decide +kernel
theorem dX9_hears_0 : decode cX9_hears 0 = .ok (.aload_n 0, 1) := by decide +kernel
theorem dX9_hears_1 : decode cX9_hears 1 = .ok (.aload_n 0, 1) := by decide +kernel
theorem dX9_hears_2 : decode cX9_hears 2 = .ok (.getfield 47, 3) := by decide +kernel
theorem dX9_hears_5 : decode cX9_hears 5 = .ok (.iload_n 1, 1) := by decide +kernel
theorem dX9_hears_6 : decode cX9_hears 6 = .ok (.iaload, 1) := by decide +kernel
theorem dX9_hears_7 : decode cX9_hears 7 = .ok (.aload_n 0, 1) := by decide +kernel
theorem dX9_hears_8 : decode cX9_hears 8 = .ok (.getfield 28, 3) := by decide +kernel
theorem dX9_hears_11 : decode cX9_hears 11 = .ok (.invokevirtual 387, 3) := by decide +kernel
theorem dX9_hears_14 : decode cX9_hears 14 = .ok (.aload_n 0, 1) := by decide +kernel
theorem dX9_hears_15 : decode cX9_hears 15 = .ok (.iconst 2, 1) := by decide +kernel
theorem dX9_hears_16 : decode cX9_hears 16 = .ok (.bipush 8, 2) := by decide +kernel
theorem dX9_hears_18 : decode cX9_hears 18 = .ok (.invokevirtual 371, 3) := by decide +kernel
theorem dX9_hears_21 : decode cX9_hears 21 = .ok (.aload_n 0, 1) := by decide +kernel
theorem dX9_hears_22 : decode cX9_hears 22 = .ok (.iload_n 1, 1) := by decide +kernel
theorem dX9_hears_23 : decode cX9_hears 23 = .ok (.invokevirtual 390, 3) := by decide +kernel
theorem dX9_hears_26 : decode cX9_hears 26 = .ok (.iadd, 1) := by decide +kernel
theorem dX9_hears_27 : decode cX9_hears 27 = .ok (.if_icmp .gt 7, 3) := by decide +kernel
theorem dX9_hears_30 : decode cX9_hears 30 = .ok (.iconst 1, 1) := by decide +kernel
theorem dX9_hears_31 : decode cX9_hears 31 = .ok (.goto 4, 3) := by decide +kernel
theorem dX9_hears_34 : decode cX9_hears 34 = .ok (.iconst 0, 1) := by decide +kernel
theorem dX9_hears_35 : decode cX9_hears 35 = .ok (.ireturn, 1) := by decide +kernel
theorem dX9_steps_0 : decode cX9_steps 0 = .ok (.aload_n 0, 1) := by decide +kernel
theorem dX9_steps_1 : decode cX9_steps 1 = .ok (.getfield 16, 3) := by decide +kernel
theorem dX9_steps_4 : decode cX9_steps 4 = .ok (.iconst 3, 1) := by decide +kernel
theorem dX9_steps_5 : decode cX9_steps 5 = .ok (.irem, 1) := by decide +kernel
theorem dX9_steps_6 : decode cX9_steps 6 = .ok (.ifCond .ne 7, 3) := by decide +kernel
theorem dX9_steps_9 : decode cX9_steps 9 = .ok (.iconst 0, 1) := by decide +kernel
theorem dX9_steps_10 : decode cX9_steps 10 = .ok (.goto 4, 3) := by decide +kernel
theorem dX9_steps_13 : decode cX9_steps 13 = .ok (.iconst 3, 1) := by decide +kernel
theorem dX9_steps_14 : decode cX9_steps 14 = .ok (.istore_n 2, 1) := by decide +kernel
theorem dX9_steps_15 : decode cX9_steps 15 = .ok (.aload_n 0, 1) := by decide +kernel
theorem dX9_steps_16 : decode cX9_steps 16 = .ok (.getfield 41, 3) := by decide +kernel
theorem dX9_steps_19 : decode cX9_steps 19 = .ok (.iload_n 1, 1) := by decide +kernel
theorem dX9_steps_20 : decode cX9_steps 20 = .ok (.iaload, 1) := by decide +kernel
theorem dX9_steps_21 : decode cX9_steps 21 = .ok (.tableswitch 81 1 6 #[39, 41, 81, 43, 59, 63], 39) := by decide +kernel
theorem dX9_steps_60 : decode cX9_steps 60 = .ok (.iconst 1, 1) := by decide +kernel
theorem dX9_steps_61 : decode cX9_steps 61 = .ok (.ireturn, 1) := by decide +kernel
theorem dX9_steps_62 : decode cX9_steps 62 = .ok (.iload_n 2, 1) := by decide +kernel
theorem dX9_steps_63 : decode cX9_steps 63 = .ok (.ireturn, 1) := by decide +kernel
theorem dX9_steps_64 : decode cX9_steps 64 = .ok (.aload_n 0, 1) := by decide +kernel
theorem dX9_steps_65 : decode cX9_steps 65 = .ok (.getfield 16, 3) := by decide +kernel
theorem dX9_steps_68 : decode cX9_steps 68 = .ok (.iconst 2, 1) := by decide +kernel
theorem dX9_steps_69 : decode cX9_steps 69 = .ok (.irem, 1) := by decide +kernel
theorem dX9_steps_70 : decode cX9_steps 70 = .ok (.iconst 1, 1) := by decide +kernel
theorem dX9_steps_71 : decode cX9_steps 71 = .ok (.if_icmp .ne 7, 3) := by decide +kernel
theorem dX9_steps_74 : decode cX9_steps 74 = .ok (.iconst 0, 1) := by decide +kernel
theorem dX9_steps_75 : decode cX9_steps 75 = .ok (.goto 4, 3) := by decide +kernel
theorem dX9_steps_78 : decode cX9_steps 78 = .ok (.iconst 1, 1) := by decide +kernel
theorem dX9_steps_79 : decode cX9_steps 79 = .ok (.ireturn, 1) := by decide +kernel
theorem dX9_steps_80 : decode cX9_steps 80 = .ok (.iload_n 2, 1) := by decide +kernel
theorem dX9_steps_81 : decode cX9_steps 81 = .ok (.iconst 1, 1) := by decide +kernel
theorem dX9_steps_82 : decode cX9_steps 82 = .ok (.iadd, 1) := by decide +kernel
theorem dX9_steps_83 : decode cX9_steps 83 = .ok (.ireturn, 1) := by decide +kernel
theorem dX9_steps_84 : decode cX9_steps 84 = .ok (.iconst 2, 1) := by decide +kernel
theorem dX9_steps_85 : decode cX9_steps 85 = .ok (.aload_n 0, 1) := by decide +kernel
theorem dX9_steps_86 : decode cX9_steps 86 = .ok (.getfield 53, 3) := by decide +kernel
theorem dX9_steps_89 : decode cX9_steps 89 = .ok (.iconst 4, 1) := by decide +kernel
theorem dX9_steps_90 : decode cX9_steps 90 = .ok (.iload_n 1, 1) := by decide +kernel
theorem dX9_steps_91 : decode cX9_steps 91 = .ok (.imul, 1) := by decide +kernel
theorem dX9_steps_92 : decode cX9_steps 92 = .ok (.aload_n 0, 1) := by decide +kernel
theorem dX9_steps_93 : decode cX9_steps 93 = .ok (.getfield 16, 3) := by decide +kernel
theorem dX9_steps_96 : decode cX9_steps 96 = .ok (.iconst 4, 1) := by decide +kernel
theorem dX9_steps_97 : decode cX9_steps 97 = .ok (.irem, 1) := by decide +kernel
theorem dX9_steps_98 : decode cX9_steps 98 = .ok (.iadd, 1) := by decide +kernel
theorem dX9_steps_99 : decode cX9_steps 99 = .ok (.iaload, 1) := by decide +kernel
theorem dX9_steps_100 : decode cX9_steps 100 = .ok (.iadd, 1) := by decide +kernel
theorem dX9_steps_101 : decode cX9_steps 101 = .ok (.ireturn, 1) := by decide +kernel
theorem dX9_steps_102 : decode cX9_steps 102 = .ok (.iconst 2, 1) := by decide +kernel
theorem dX9_steps_103 : decode cX9_steps 103 = .ok (.ireturn, 1) := by decide +kernel
theorem dX9_goal_0 : decode cX9_goal 0 = .ok (.aload_n 0, 1) := by decide +kernel
theorem dX9_goal_1 : decode cX9_goal 1 = .ok (.getfield 41, 3) := by decide +kernel
theorem dX9_goal_4 : decode cX9_goal 4 = .ok (.iload_n 1, 1) := by decide +kernel
theorem dX9_goal_5 : decode cX9_goal 5 = .ok (.iaload, 1) := by decide +kernel
theorem dX9_goal_6 : decode cX9_goal 6 = .ok (.iconst 3, 1) := by decide +kernel
theorem dX9_goal_7 : decode cX9_goal 7 = .ok (.if_icmp .eq 14, 3) := by decide +kernel
theorem dX9_goal_10 : decode cX9_goal 10 = .ok (.aload_n 0, 1) := by decide +kernel
theorem dX9_goal_11 : decode cX9_goal 11 = .ok (.getfield 41, 3) := by decide +kernel
theorem dX9_goal_14 : decode cX9_goal 14 = .ok (.iload_n 1, 1) := by decide +kernel
theorem dX9_goal_15 : decode cX9_goal 15 = .ok (.iaload, 1) := by decide +kernel
theorem dX9_goal_16 : decode cX9_goal 16 = .ok (.bipush 6, 2) := by decide +kernel
theorem dX9_goal_18 : decode cX9_goal 18 = .ok (.if_icmp .ne 7, 3) := by decide +kernel
theorem dX9_goal_21 : decode cX9_goal 21 = .ok (.iconst 1, 1) := by decide +kernel
theorem dX9_goal_22 : decode cX9_goal 22 = .ok (.goto 4, 3) := by decide +kernel
theorem dX9_goal_25 : decode cX9_goal 25 = .ok (.iconst 0, 1) := by decide +kernel
theorem dX9_goal_26 : decode cX9_goal 26 = .ok (.istore_n 2, 1) := by decide +kernel
theorem dX9_goal_27 : decode cX9_goal 27 = .ok (.bipush (-5), 2) := by decide +kernel
theorem dX9_goal_29 : decode cX9_goal 29 = .ok (.istore_n 3, 1) := by decide +kernel
theorem dX9_goal_30 : decode cX9_goal 30 = .ok (.iconst 0, 1) := by decide +kernel
theorem dX9_goal_31 : decode cX9_goal 31 = .ok (.istore 4, 2) := by decide +kernel
theorem dX9_goal_33 : decode cX9_goal 33 = .ok (.iconst 0, 1) := by decide +kernel
theorem dX9_goal_34 : decode cX9_goal 34 = .ok (.istore 5, 2) := by decide +kernel
theorem dX9_goal_36 : decode cX9_goal 36 = .ok (.iload 5, 2) := by decide +kernel
theorem dX9_goal_38 : decode cX9_goal 38 = .ok (.aload_n 0, 1) := by decide +kernel
theorem dX9_goal_39 : decode cX9_goal 39 = .ok (.getfield 7, 3) := by decide +kernel
theorem dX9_goal_42 : decode cX9_goal 42 = .ok (.if_icmp .ge 90, 3) := by decide +kernel
theorem dX9_goal_45 : decode cX9_goal 45 = .ok (.aload_n 0, 1) := by decide +kernel
theorem dX9_goal_46 : decode cX9_goal 46 = .ok (.aload_n 0, 1) := by decide +kernel
theorem dX9_goal_47 : decode cX9_goal 47 = .ok (.getfield 50, 3) := by decide +kernel
theorem dX9_goal_50 : decode cX9_goal 50 = .ok (.iload_n 1, 1) := by decide +kernel
theorem dX9_goal_51 : decode cX9_goal 51 = .ok (.iaload, 1) := by decide +kernel
theorem dX9_goal_52 : decode cX9_goal 52 = .ok (.iload 5, 2) := by decide +kernel
theorem dX9_goal_54 : decode cX9_goal 54 = .ok (.invokevirtual 312, 3) := by decide +kernel
theorem dX9_goal_57 : decode cX9_goal 57 = .ok (.ifCond .eq 6, 3) := by decide +kernel
theorem dX9_goal_60 : decode cX9_goal 60 = .ok (.goto 66, 3) := by decide +kernel
theorem dX9_goal_63 : decode cX9_goal 63 = .ok (.iload_n 2, 1) := by decide +kernel
theorem dX9_goal_64 : decode cX9_goal 64 = .ok (.ifCond .eq 22, 3) := by decide +kernel
theorem dX9_goal_67 : decode cX9_goal 67 = .ok (.aload_n 0, 1) := by decide +kernel
theorem dX9_goal_68 : decode cX9_goal 68 = .ok (.aload_n 0, 1) := by decide +kernel
theorem dX9_goal_69 : decode cX9_goal 69 = .ok (.getfield 28, 3) := by decide +kernel
theorem dX9_goal_72 : decode cX9_goal 72 = .ok (.aload_n 0, 1) := by decide +kernel
theorem dX9_goal_73 : decode cX9_goal 73 = .ok (.getfield 37, 3) := by decide +kernel
theorem dX9_goal_76 : decode cX9_goal 76 = .ok (.iload 5, 2) := by decide +kernel
theorem dX9_goal_78 : decode cX9_goal 78 = .ok (.iaload, 1) := by decide +kernel
theorem dX9_goal_79 : decode cX9_goal 79 = .ok (.invokevirtual 387, 3) := by decide +kernel
theorem dX9_goal_82 : decode cX9_goal 82 = .ok (.ineg, 1) := by decide +kernel
theorem dX9_goal_83 : decode cX9_goal 83 = .ok (.goto 20, 3) := by decide +kernel
theorem dX9_goal_86 : decode cX9_goal 86 = .ok (.aload_n 0, 1) := by decide +kernel
theorem dX9_goal_87 : decode cX9_goal 87 = .ok (.aload_n 0, 1) := by decide +kernel
theorem dX9_goal_88 : decode cX9_goal 88 = .ok (.getfield 47, 3) := by decide +kernel
theorem dX9_goal_91 : decode cX9_goal 91 = .ok (.iload_n 1, 1) := by decide +kernel
theorem dX9_goal_92 : decode cX9_goal 92 = .ok (.iaload, 1) := by decide +kernel
theorem dX9_goal_93 : decode cX9_goal 93 = .ok (.aload_n 0, 1) := by decide +kernel
theorem dX9_goal_94 : decode cX9_goal 94 = .ok (.getfield 37, 3) := by decide +kernel
theorem dX9_goal_97 : decode cX9_goal 97 = .ok (.iload 5, 2) := by decide +kernel
theorem dX9_goal_99 : decode cX9_goal 99 = .ok (.iaload, 1) := by decide +kernel
theorem dX9_goal_100 : decode cX9_goal 100 = .ok (.invokevirtual 387, 3) := by decide +kernel
theorem dX9_goal_103 : decode cX9_goal 103 = .ok (.istore 6, 2) := by decide +kernel
theorem dX9_goal_105 : decode cX9_goal 105 = .ok (.iload_n 3, 1) := by decide +kernel
theorem dX9_goal_106 : decode cX9_goal 106 = .ok (.ifCond .lt 13, 3) := by decide +kernel
theorem dX9_goal_109 : decode cX9_goal 109 = .ok (.iload 6, 2) := by decide +kernel
theorem dX9_goal_111 : decode cX9_goal 111 = .ok (.iload 4, 2) := by decide +kernel
theorem dX9_goal_113 : decode cX9_goal 113 = .ok (.if_icmp .lt 6, 3) := by decide +kernel
theorem dX9_goal_116 : decode cX9_goal 116 = .ok (.goto 10, 3) := by decide +kernel
theorem dX9_goal_119 : decode cX9_goal 119 = .ok (.iload 5, 2) := by decide +kernel
theorem dX9_goal_121 : decode cX9_goal 121 = .ok (.istore_n 3, 1) := by decide +kernel
theorem dX9_goal_122 : decode cX9_goal 122 = .ok (.iload 6, 2) := by decide +kernel
theorem dX9_goal_124 : decode cX9_goal 124 = .ok (.istore 4, 2) := by decide +kernel
theorem dX9_goal_126 : decode cX9_goal 126 = .ok (.iinc 5 1, 3) := by decide +kernel
theorem dX9_goal_129 : decode cX9_goal 129 = .ok (.goto (-93), 3) := by decide +kernel
theorem dX9_goal_132 : decode cX9_goal 132 = .ok (.iload_n 3, 1) := by decide +kernel
theorem dX9_goal_133 : decode cX9_goal 133 = .ok (.ireturn, 1) := by decide +kernel
theorem dX9_of_0 : decode cX9_of 0 = .ok (.aload_n 0, 1) := by decide +kernel
theorem dX9_of_1 : decode cX9_of 1 = .ok (.iload_n 1, 1) := by decide +kernel
theorem dX9_of_2 : decode cX9_of 2 = .ok (.invokevirtual 305, 3) := by decide +kernel
theorem dX9_of_5 : decode cX9_of 5 = .ok (.ifCond .ne 7, 3) := by decide +kernel
theorem dX9_of_8 : decode cX9_of 8 = .ok (.sipush (-1001), 3) := by decide +kernel
theorem dX9_of_11 : decode cX9_of 11 = .ok (.ireturn, 1) := by decide +kernel
theorem dX9_of_12 : decode cX9_of 12 = .ok (.iload_n 2, 1) := by decide +kernel
theorem dX9_of_13 : decode cX9_of 13 = .ok (.tableswitch 151 0 9 #[55, 62, 69, 76, 94, 101, 119, 125, 139, 145], 55) := by decide +kernel
theorem dX9_of_68 : decode cX9_of 68 = .ok (.aload_n 0, 1) := by decide +kernel
theorem dX9_of_69 : decode cX9_of 69 = .ok (.getfield 41, 3) := by decide +kernel
theorem dX9_of_72 : decode cX9_of 72 = .ok (.iload_n 1, 1) := by decide +kernel
theorem dX9_of_73 : decode cX9_of 73 = .ok (.iaload, 1) := by decide +kernel
theorem dX9_of_74 : decode cX9_of 74 = .ok (.ireturn, 1) := by decide +kernel
theorem dX9_of_75 : decode cX9_of 75 = .ok (.aload_n 0, 1) := by decide +kernel
theorem dX9_of_76 : decode cX9_of 76 = .ok (.getfield 44, 3) := by decide +kernel
theorem dX9_of_79 : decode cX9_of 79 = .ok (.iload_n 1, 1) := by decide +kernel
theorem dX9_of_80 : decode cX9_of 80 = .ok (.iaload, 1) := by decide +kernel
theorem dX9_of_81 : decode cX9_of 81 = .ok (.ireturn, 1) := by decide +kernel
theorem dX9_of_82 : decode cX9_of 82 = .ok (.aload_n 0, 1) := by decide +kernel
theorem dX9_of_83 : decode cX9_of 83 = .ok (.getfield 47, 3) := by decide +kernel
theorem dX9_of_86 : decode cX9_of 86 = .ok (.iload_n 1, 1) := by decide +kernel
theorem dX9_of_87 : decode cX9_of 87 = .ok (.iaload, 1) := by decide +kernel
theorem dX9_of_88 : decode cX9_of 88 = .ok (.ireturn, 1) := by decide +kernel
theorem dX9_of_89 : decode cX9_of 89 = .ok (.aload_n 0, 1) := by decide +kernel
theorem dX9_of_90 : decode cX9_of 90 = .ok (.aload_n 0, 1) := by decide +kernel
theorem dX9_of_91 : decode cX9_of 91 = .ok (.getfield 22, 3) := by decide +kernel
theorem dX9_of_94 : decode cX9_of 94 = .ok (.iload_n 1, 1) := by decide +kernel
theorem dX9_of_95 : decode cX9_of 95 = .ok (.invokevirtual 312, 3) := by decide +kernel
theorem dX9_of_98 : decode cX9_of 98 = .ok (.ifCond .eq 7, 3) := by decide +kernel
theorem dX9_of_101 : decode cX9_of 101 = .ok (.iconst 1, 1) := by decide +kernel
theorem dX9_of_102 : decode cX9_of 102 = .ok (.goto 4, 3) := by decide +kernel
theorem dX9_of_105 : decode cX9_of 105 = .ok (.iconst 0, 1) := by decide +kernel
theorem dX9_of_106 : decode cX9_of 106 = .ok (.ireturn, 1) := by decide +kernel
theorem dX9_of_107 : decode cX9_of 107 = .ok (.aload_n 0, 1) := by decide +kernel
theorem dX9_of_108 : decode cX9_of 108 = .ok (.getfield 50, 3) := by decide +kernel
theorem dX9_of_111 : decode cX9_of 111 = .ok (.iload_n 1, 1) := by decide +kernel
theorem dX9_of_112 : decode cX9_of 112 = .ok (.iaload, 1) := by decide +kernel
theorem dX9_of_113 : decode cX9_of 113 = .ok (.ireturn, 1) := by decide +kernel
theorem dX9_of_114 : decode cX9_of 114 = .ok (.aload_n 0, 1) := by decide +kernel
theorem dX9_of_115 : decode cX9_of 115 = .ok (.aload_n 0, 1) := by decide +kernel
theorem dX9_of_116 : decode cX9_of 116 = .ok (.getfield 25, 3) := by decide +kernel
theorem dX9_of_119 : decode cX9_of 119 = .ok (.iload_n 1, 1) := by decide +kernel
theorem dX9_of_120 : decode cX9_of 120 = .ok (.invokevirtual 312, 3) := by decide +kernel
theorem dX9_of_123 : decode cX9_of 123 = .ok (.ifCond .eq 7, 3) := by decide +kernel
theorem dX9_of_126 : decode cX9_of 126 = .ok (.iconst 1, 1) := by decide +kernel
theorem dX9_of_127 : decode cX9_of 127 = .ok (.goto 4, 3) := by decide +kernel
theorem dX9_of_130 : decode cX9_of 130 = .ok (.iconst 0, 1) := by decide +kernel
theorem dX9_of_131 : decode cX9_of 131 = .ok (.ireturn, 1) := by decide +kernel
theorem dX9_of_132 : decode cX9_of 132 = .ok (.aload_n 0, 1) := by decide +kernel
theorem dX9_of_133 : decode cX9_of 133 = .ok (.iload_n 1, 1) := by decide +kernel
theorem dX9_of_134 : decode cX9_of 134 = .ok (.invokevirtual 390, 3) := by decide +kernel
theorem dX9_of_137 : decode cX9_of 137 = .ok (.ireturn, 1) := by decide +kernel
theorem dX9_of_138 : decode cX9_of 138 = .ok (.aload_n 0, 1) := by decide +kernel
theorem dX9_of_139 : decode cX9_of 139 = .ok (.iload_n 1, 1) := by decide +kernel
theorem dX9_of_140 : decode cX9_of 140 = .ok (.invokevirtual 393, 3) := by decide +kernel
theorem dX9_of_143 : decode cX9_of 143 = .ok (.ifCond .eq 7, 3) := by decide +kernel
theorem dX9_of_146 : decode cX9_of 146 = .ok (.iconst 1, 1) := by decide +kernel
theorem dX9_of_147 : decode cX9_of 147 = .ok (.goto 4, 3) := by decide +kernel
theorem dX9_of_150 : decode cX9_of 150 = .ok (.iconst 0, 1) := by decide +kernel
theorem dX9_of_151 : decode cX9_of 151 = .ok (.ireturn, 1) := by decide +kernel
theorem dX9_of_152 : decode cX9_of 152 = .ok (.aload_n 0, 1) := by decide +kernel
theorem dX9_of_153 : decode cX9_of 153 = .ok (.iload_n 1, 1) := by decide +kernel
theorem dX9_of_154 : decode cX9_of 154 = .ok (.invokevirtual 396, 3) := by decide +kernel
theorem dX9_of_157 : decode cX9_of 157 = .ok (.ireturn, 1) := by decide +kernel
theorem dX9_of_158 : decode cX9_of 158 = .ok (.aload_n 0, 1) := by decide +kernel
theorem dX9_of_159 : decode cX9_of 159 = .ok (.iload_n 1, 1) := by decide +kernel
theorem dX9_of_160 : decode cX9_of 160 = .ok (.invokevirtual 399, 3) := by decide +kernel
theorem dX9_of_163 : decode cX9_of 163 = .ok (.ireturn, 1) := by decide +kernel
theorem dX9_of_164 : decode cX9_of 164 = .ok (.sipush (-1001), 3) := by decide +kernel
theorem dX9_of_167 : decode cX9_of 167 = .ok (.ireturn, 1) := by decide +kernel
theorem dX9_told_0 : decode cX9_told 0 = .ok (.aload_n 0, 1) := by decide +kernel
theorem dX9_told_1 : decode cX9_told 1 = .ok (.iload_n 1, 1) := by decide +kernel
theorem dX9_told_2 : decode cX9_told 2 = .ok (.bipush 10, 2) := by decide +kernel
theorem dX9_told_4 : decode cX9_told 4 = .ok (.bipush 9, 2) := by decide +kernel
theorem dX9_told_6 : decode cX9_told 6 = .ok (.aload_n 0, 1) := by decide +kernel
theorem dX9_told_7 : decode cX9_told 7 = .ok (.getfield 7, 3) := by decide +kernel
theorem dX9_told_10 : decode cX9_told 10 = .ok (.iadd, 1) := by decide +kernel
theorem dX9_told_11 : decode cX9_told 11 = .ok (.invokevirtual 293, 3) := by decide +kernel
theorem dX9_told_14 : decode cX9_told 14 = .ok (.ifCond .eq 13, 3) := by decide +kernel
theorem dX9_told_17 : decode cX9_told 17 = .ok (.aload_n 0, 1) := by decide +kernel
theorem dX9_told_18 : decode cX9_told 18 = .ok (.getfield 37, 3) := by decide +kernel
theorem dX9_told_21 : decode cX9_told 21 = .ok (.iload_n 1, 1) := by decide +kernel
theorem dX9_told_22 : decode cX9_told 22 = .ok (.bipush 10, 2) := by decide +kernel
theorem dX9_told_24 : decode cX9_told 24 = .ok (.isub, 1) := by decide +kernel
theorem dX9_told_25 : decode cX9_told 25 = .ok (.iaload, 1) := by decide +kernel
theorem dX9_told_26 : decode cX9_told 26 = .ok (.ireturn, 1) := by decide +kernel
theorem dX9_told_27 : decode cX9_told 27 = .ok (.iload_n 1, 1) := by decide +kernel
theorem dX9_told_28 : decode cX9_told 28 = .ok (.tableswitch 82 0 6 #[44, 49, 57, 62, 67, 72, 77], 44) := by decide +kernel
theorem dX9_told_72 : decode cX9_told 72 = .ok (.aload_n 0, 1) := by decide +kernel
theorem dX9_told_73 : decode cX9_told 73 = .ok (.getfield 16, 3) := by decide +kernel
theorem dX9_told_76 : decode cX9_told 76 = .ok (.ireturn, 1) := by decide +kernel
theorem dX9_told_77 : decode cX9_told 77 = .ok (.aload_n 0, 1) := by decide +kernel
theorem dX9_told_78 : decode cX9_told 78 = .ok (.iconst 2, 1) := by decide +kernel
theorem dX9_told_79 : decode cX9_told 79 = .ok (.bipush 8, 2) := by decide +kernel
theorem dX9_told_81 : decode cX9_told 81 = .ok (.invokevirtual 371, 3) := by decide +kernel
theorem dX9_told_84 : decode cX9_told 84 = .ok (.ireturn, 1) := by decide +kernel
theorem dX9_told_85 : decode cX9_told 85 = .ok (.aload_n 0, 1) := by decide +kernel
theorem dX9_told_86 : decode cX9_told 86 = .ok (.invokevirtual 402, 3) := by decide +kernel
theorem dX9_told_89 : decode cX9_told 89 = .ok (.ireturn, 1) := by decide +kernel
theorem dX9_told_90 : decode cX9_told 90 = .ok (.aload_n 0, 1) := by decide +kernel
theorem dX9_told_91 : decode cX9_told 91 = .ok (.getfield 28, 3) := by decide +kernel
theorem dX9_told_94 : decode cX9_told 94 = .ok (.ireturn, 1) := by decide +kernel
theorem dX9_told_95 : decode cX9_told 95 = .ok (.aload_n 0, 1) := by decide +kernel
theorem dX9_told_96 : decode cX9_told 96 = .ok (.getfield 31, 3) := by decide +kernel
theorem dX9_told_99 : decode cX9_told 99 = .ok (.ireturn, 1) := by decide +kernel
theorem dX9_told_100 : decode cX9_told 100 = .ok (.aload_n 0, 1) := by decide +kernel
theorem dX9_told_101 : decode cX9_told 101 = .ok (.getfield 19, 3) := by decide +kernel
theorem dX9_told_104 : decode cX9_told 104 = .ok (.ireturn, 1) := by decide +kernel
theorem dX9_told_105 : decode cX9_told 105 = .ok (.aload_n 0, 1) := by decide +kernel
theorem dX9_told_106 : decode cX9_told 106 = .ok (.getfield 25, 3) := by decide +kernel
theorem dX9_told_109 : decode cX9_told 109 = .ok (.ireturn, 1) := by decide +kernel
theorem dX9_told_110 : decode cX9_told 110 = .ok (.iconst (-1), 1) := by decide +kernel
theorem dX9_told_111 : decode cX9_told 111 = .ok (.ireturn, 1) := by decide +kernel
theorem dX9_goPerson_0 : decode cX9_goPerson 0 = .ok (.aload_n 0, 1) := by decide +kernel
theorem dX9_goPerson_1 : decode cX9_goPerson 1 = .ok (.getfield 123, 3) := by decide +kernel
theorem dX9_goPerson_4 : decode cX9_goPerson 4 = .ok (.iload_n 1, 1) := by decide +kernel
theorem dX9_goPerson_5 : decode cX9_goPerson 5 = .ok (.aload_n 0, 1) := by decide +kernel
theorem dX9_goPerson_6 : decode cX9_goPerson 6 = .ok (.getfield 47, 3) := by decide +kernel
theorem dX9_goPerson_9 : decode cX9_goPerson 9 = .ok (.iload_n 1, 1) := by decide +kernel
theorem dX9_goPerson_10 : decode cX9_goPerson 10 = .ok (.iaload, 1) := by decide +kernel
theorem dX9_goPerson_11 : decode cX9_goPerson 11 = .ok (.iastore, 1) := by decide +kernel
theorem dX9_goPerson_12 : decode cX9_goPerson 12 = .ok (.aload_n 0, 1) := by decide +kernel
theorem dX9_goPerson_13 : decode cX9_goPerson 13 = .ok (.aload_n 0, 1) := by decide +kernel
theorem dX9_goPerson_14 : decode cX9_goPerson 14 = .ok (.getfield 25, 3) := by decide +kernel
theorem dX9_goPerson_17 : decode cX9_goPerson 17 = .ok (.iload_n 1, 1) := by decide +kernel
theorem dX9_goPerson_18 : decode cX9_goPerson 18 = .ok (.invokevirtual 312, 3) := by decide +kernel
theorem dX9_goPerson_21 : decode cX9_goPerson 21 = .ok (.ifCond .ne 23, 3) := by decide +kernel
theorem dX9_goPerson_24 : decode cX9_goPerson 24 = .ok (.aload_n 0, 1) := by decide +kernel
theorem dX9_goPerson_25 : decode cX9_goPerson 25 = .ok (.aload_n 0, 1) := by decide +kernel
theorem dX9_goPerson_26 : decode cX9_goPerson 26 = .ok (.getfield 22, 3) := by decide +kernel
theorem dX9_goPerson_29 : decode cX9_goPerson 29 = .ok (.iload_n 1, 1) := by decide +kernel
theorem dX9_goPerson_30 : decode cX9_goPerson 30 = .ok (.invokevirtual 312, 3) := by decide +kernel
theorem dX9_goPerson_33 : decode cX9_goPerson 33 = .ok (.ifCond .ne 12, 3) := by decide +kernel
theorem dX9_goPerson_36 : decode cX9_goPerson 36 = .ok (.aload_n 0, 1) := by decide +kernel
theorem dX9_goPerson_37 : decode cX9_goPerson 37 = .ok (.iload_n 1, 1) := by decide +kernel
theorem dX9_goPerson_38 : decode cX9_goPerson 38 = .ok (.invokevirtual 393, 3) := by decide +kernel
theorem dX9_goPerson_41 : decode cX9_goPerson 41 = .ok (.ifCond .ne 4, 3) := by decide +kernel
theorem dX9_goPerson_44 : decode cX9_goPerson 44 = .ok (.return_, 1) := by decide +kernel
theorem dX9_goPerson_45 : decode cX9_goPerson 45 = .ok (.aload_n 0, 1) := by decide +kernel
theorem dX9_goPerson_46 : decode cX9_goPerson 46 = .ok (.dup, 1) := by decide +kernel
theorem dX9_goPerson_47 : decode cX9_goPerson 47 = .ok (.getfield 126, 3) := by decide +kernel
theorem dX9_goPerson_50 : decode cX9_goPerson 50 = .ok (.iconst 1, 1) := by decide +kernel
theorem dX9_goPerson_51 : decode cX9_goPerson 51 = .ok (.iload_n 1, 1) := by decide +kernel
theorem dX9_goPerson_52 : decode cX9_goPerson 52 = .ok (.ishl, 1) := by decide +kernel
theorem dX9_goPerson_53 : decode cX9_goPerson 53 = .ok (.ior, 1) := by decide +kernel
theorem dX9_goPerson_54 : decode cX9_goPerson 54 = .ok (.putfield 126, 3) := by decide +kernel
theorem dX9_goPerson_57 : decode cX9_goPerson 57 = .ok (.aload_n 0, 1) := by decide +kernel
theorem dX9_goPerson_58 : decode cX9_goPerson 58 = .ok (.iload_n 1, 1) := by decide +kernel
theorem dX9_goPerson_59 : decode cX9_goPerson 59 = .ok (.invokevirtual 399, 3) := by decide +kernel
theorem dX9_goPerson_62 : decode cX9_goPerson 62 = .ok (.istore_n 2, 1) := by decide +kernel
theorem dX9_goPerson_63 : decode cX9_goPerson 63 = .ok (.iload_n 2, 1) := by decide +kernel
theorem dX9_goPerson_64 : decode cX9_goPerson 64 = .ok (.ifCond .ge 4, 3) := by decide +kernel
theorem dX9_goPerson_67 : decode cX9_goPerson 67 = .ok (.return_, 1) := by decide +kernel
theorem dX9_goPerson_68 : decode cX9_goPerson 68 = .ok (.aload_n 0, 1) := by decide +kernel
theorem dX9_goPerson_69 : decode cX9_goPerson 69 = .ok (.getfield 123, 3) := by decide +kernel
theorem dX9_goPerson_72 : decode cX9_goPerson 72 = .ok (.iload_n 1, 1) := by decide +kernel
theorem dX9_goPerson_73 : decode cX9_goPerson 73 = .ok (.aload_n 0, 1) := by decide +kernel
theorem dX9_goPerson_74 : decode cX9_goPerson 74 = .ok (.aload_n 0, 1) := by decide +kernel
theorem dX9_goPerson_75 : decode cX9_goPerson 75 = .ok (.getfield 47, 3) := by decide +kernel
theorem dX9_goPerson_78 : decode cX9_goPerson 78 = .ok (.iload_n 1, 1) := by decide +kernel
theorem dX9_goPerson_79 : decode cX9_goPerson 79 = .ok (.iaload, 1) := by decide +kernel
theorem dX9_goPerson_80 : decode cX9_goPerson 80 = .ok (.aload_n 0, 1) := by decide +kernel
theorem dX9_goPerson_81 : decode cX9_goPerson 81 = .ok (.getfield 37, 3) := by decide +kernel
theorem dX9_goPerson_84 : decode cX9_goPerson 84 = .ok (.iload_n 2, 1) := by decide +kernel
theorem dX9_goPerson_85 : decode cX9_goPerson 85 = .ok (.iaload, 1) := by decide +kernel
theorem dX9_goPerson_86 : decode cX9_goPerson 86 = .ok (.aload_n 0, 1) := by decide +kernel
theorem dX9_goPerson_87 : decode cX9_goPerson 87 = .ok (.iload_n 1, 1) := by decide +kernel
theorem dX9_goPerson_88 : decode cX9_goPerson 88 = .ok (.invokevirtual 396, 3) := by decide +kernel
theorem dX9_goPerson_91 : decode cX9_goPerson 91 = .ok (.invokevirtual 405, 3) := by decide +kernel
theorem dX9_goPerson_94 : decode cX9_goPerson 94 = .ok (.iastore, 1) := by decide +kernel
theorem dX9_goPerson_95 : decode cX9_goPerson 95 = .ok (.aload_n 0, 1) := by decide +kernel
theorem dX9_goPerson_96 : decode cX9_goPerson 96 = .ok (.getfield 123, 3) := by decide +kernel
theorem dX9_goPerson_99 : decode cX9_goPerson 99 = .ok (.iload_n 1, 1) := by decide +kernel
theorem dX9_goPerson_100 : decode cX9_goPerson 100 = .ok (.iaload, 1) := by decide +kernel
theorem dX9_goPerson_101 : decode cX9_goPerson 101 = .ok (.aload_n 0, 1) := by decide +kernel
theorem dX9_goPerson_102 : decode cX9_goPerson 102 = .ok (.getfield 37, 3) := by decide +kernel
theorem dX9_goPerson_105 : decode cX9_goPerson 105 = .ok (.iload_n 2, 1) := by decide +kernel
theorem dX9_goPerson_106 : decode cX9_goPerson 106 = .ok (.iaload, 1) := by decide +kernel
theorem dX9_goPerson_107 : decode cX9_goPerson 107 = .ok (.if_icmp .eq 4, 3) := by decide +kernel
theorem dX9_goPerson_110 : decode cX9_goPerson 110 = .ok (.return_, 1) := by decide +kernel
theorem dX9_goPerson_111 : decode cX9_goPerson 111 = .ok (.aload_n 0, 1) := by decide +kernel
theorem dX9_goPerson_112 : decode cX9_goPerson 112 = .ok (.aload_n 0, 1) := by decide +kernel
theorem dX9_goPerson_113 : decode cX9_goPerson 113 = .ok (.getfield 19, 3) := by decide +kernel
theorem dX9_goPerson_116 : decode cX9_goPerson 116 = .ok (.iload_n 2, 1) := by decide +kernel
theorem dX9_goPerson_117 : decode cX9_goPerson 117 = .ok (.invokevirtual 312, 3) := by decide +kernel
theorem dX9_goPerson_120 : decode cX9_goPerson 120 = .ok (.ifCond .eq 18, 3) := by decide +kernel
theorem dX9_goPerson_123 : decode cX9_goPerson 123 = .ok (.aload_n 0, 1) := by decide +kernel
theorem dX9_goPerson_124 : decode cX9_goPerson 124 = .ok (.getfield 50, 3) := by decide +kernel
theorem dX9_goPerson_127 : decode cX9_goPerson 127 = .ok (.iload_n 1, 1) := by decide +kernel
theorem dX9_goPerson_128 : decode cX9_goPerson 128 = .ok (.dup2, 1) := by decide +kernel
theorem dX9_goPerson_129 : decode cX9_goPerson 129 = .ok (.iaload, 1) := by decide +kernel
theorem dX9_goPerson_130 : decode cX9_goPerson 130 = .ok (.iconst 1, 1) := by decide +kernel
theorem dX9_goPerson_131 : decode cX9_goPerson 131 = .ok (.iload_n 2, 1) := by decide +kernel
theorem dX9_goPerson_132 : decode cX9_goPerson 132 = .ok (.ishl, 1) := by decide +kernel
theorem dX9_goPerson_133 : decode cX9_goPerson 133 = .ok (.ior, 1) := by decide +kernel
theorem dX9_goPerson_134 : decode cX9_goPerson 134 = .ok (.iastore, 1) := by decide +kernel
theorem dX9_goPerson_135 : decode cX9_goPerson 135 = .ok (.goto 15, 3) := by decide +kernel
theorem dX9_goPerson_138 : decode cX9_goPerson 138 = .ok (.aload_n 0, 1) := by decide +kernel
theorem dX9_goPerson_139 : decode cX9_goPerson 139 = .ok (.dup, 1) := by decide +kernel
theorem dX9_goPerson_140 : decode cX9_goPerson 140 = .ok (.getfield 129, 3) := by decide +kernel
theorem dX9_goPerson_143 : decode cX9_goPerson 143 = .ok (.iconst 1, 1) := by decide +kernel
theorem dX9_goPerson_144 : decode cX9_goPerson 144 = .ok (.iload_n 1, 1) := by decide +kernel
theorem dX9_goPerson_145 : decode cX9_goPerson 145 = .ok (.ishl, 1) := by decide +kernel
theorem dX9_goPerson_146 : decode cX9_goPerson 146 = .ok (.ior, 1) := by decide +kernel
theorem dX9_goPerson_147 : decode cX9_goPerson 147 = .ok (.putfield 129, 3) := by decide +kernel
theorem dX9_goPerson_150 : decode cX9_goPerson 150 = .ok (.return_, 1) := by decide +kernel
theorem dX9_goKeeper_0 : decode cX9_goKeeper 0 = .ok (.aload_n 0, 1) := by decide +kernel
theorem dX9_goKeeper_1 : decode cX9_goKeeper 1 = .ok (.getfield 113, 3) := by decide +kernel
theorem dX9_goKeeper_4 : decode cX9_goKeeper 4 = .ok (.ifCond .le 14, 3) := by decide +kernel
theorem dX9_goKeeper_7 : decode cX9_goKeeper 7 = .ok (.aload_n 0, 1) := by decide +kernel
theorem dX9_goKeeper_8 : decode cX9_goKeeper 8 = .ok (.dup, 1) := by decide +kernel
theorem dX9_goKeeper_9 : decode cX9_goKeeper 9 = .ok (.getfield 113, 3) := by decide +kernel
theorem dX9_goKeeper_12 : decode cX9_goKeeper 12 = .ok (.iconst 1, 1) := by decide +kernel
theorem dX9_goKeeper_13 : decode cX9_goKeeper 13 = .ok (.isub, 1) := by decide +kernel
theorem dX9_goKeeper_14 : decode cX9_goKeeper 14 = .ok (.putfield 113, 3) := by decide +kernel
theorem dX9_goKeeper_17 : decode cX9_goKeeper 17 = .ok (.return_, 1) := by decide +kernel
theorem dX9_goKeeper_18 : decode cX9_goKeeper 18 = .ok (.aload_n 0, 1) := by decide +kernel
theorem dX9_goKeeper_19 : decode cX9_goKeeper 19 = .ok (.getfield 31, 3) := by decide +kernel
theorem dX9_goKeeper_22 : decode cX9_goKeeper 22 = .ok (.aload_n 0, 1) := by decide +kernel
theorem dX9_goKeeper_23 : decode cX9_goKeeper 23 = .ok (.getfield 34, 3) := by decide +kernel
theorem dX9_goKeeper_26 : decode cX9_goKeeper 26 = .ok (.if_icmp .lt 4, 3) := by decide +kernel
theorem dX9_goKeeper_29 : decode cX9_goKeeper 29 = .ok (.return_, 1) := by decide +kernel
theorem dX9_goKeeper_30 : decode cX9_goKeeper 30 = .ok (.aload_n 0, 1) := by decide +kernel
theorem dX9_goKeeper_31 : decode cX9_goKeeper 31 = .ok (.getfield 56, 3) := by decide +kernel
theorem dX9_goKeeper_34 : decode cX9_goKeeper 34 = .ok (.aload_n 0, 1) := by decide +kernel
theorem dX9_goKeeper_35 : decode cX9_goKeeper 35 = .ok (.getfield 31, 3) := by decide +kernel
theorem dX9_goKeeper_38 : decode cX9_goKeeper 38 = .ok (.iaload, 1) := by decide +kernel
theorem dX9_goKeeper_39 : decode cX9_goKeeper 39 = .ok (.istore_n 1, 1) := by decide +kernel
theorem dX9_goKeeper_40 : decode cX9_goKeeper 40 = .ok (.aload_n 0, 1) := by decide +kernel
theorem dX9_goKeeper_41 : decode cX9_goKeeper 41 = .ok (.aload_n 0, 1) := by decide +kernel
theorem dX9_goKeeper_42 : decode cX9_goKeeper 42 = .ok (.aload_n 0, 1) := by decide +kernel
theorem dX9_goKeeper_43 : decode cX9_goKeeper 43 = .ok (.getfield 28, 3) := by decide +kernel
theorem dX9_goKeeper_46 : decode cX9_goKeeper 46 = .ok (.aload_n 0, 1) := by decide +kernel
theorem dX9_goKeeper_47 : decode cX9_goKeeper 47 = .ok (.getfield 37, 3) := by decide +kernel
theorem dX9_goKeeper_50 : decode cX9_goKeeper 50 = .ok (.iload_n 1, 1) := by decide +kernel
theorem dX9_goKeeper_51 : decode cX9_goKeeper 51 = .ok (.iaload, 1) := by decide +kernel
theorem dX9_goKeeper_52 : decode cX9_goKeeper 52 = .ok (.aload_n 0, 1) := by decide +kernel
theorem dX9_goKeeper_53 : decode cX9_goKeeper 53 = .ok (.invokevirtual 402, 3) := by decide +kernel
theorem dX9_goKeeper_56 : decode cX9_goKeeper 56 = .ok (.invokevirtual 405, 3) := by decide +kernel
theorem dX9_goKeeper_59 : decode cX9_goKeeper 59 = .ok (.putfield 28, 3) := by decide +kernel
theorem dX9_goKeeper_62 : decode cX9_goKeeper 62 = .ok (.aload_n 0, 1) := by decide +kernel
theorem dX9_goKeeper_63 : decode cX9_goKeeper 63 = .ok (.getfield 28, 3) := by decide +kernel
theorem dX9_goKeeper_66 : decode cX9_goKeeper 66 = .ok (.aload_n 0, 1) := by decide +kernel
theorem dX9_goKeeper_67 : decode cX9_goKeeper 67 = .ok (.getfield 37, 3) := by decide +kernel
theorem dX9_goKeeper_70 : decode cX9_goKeeper 70 = .ok (.iload_n 1, 1) := by decide +kernel
theorem dX9_goKeeper_71 : decode cX9_goKeeper 71 = .ok (.iaload, 1) := by decide +kernel
theorem dX9_goKeeper_72 : decode cX9_goKeeper 72 = .ok (.if_icmp .eq 4, 3) := by decide +kernel
theorem dX9_goKeeper_75 : decode cX9_goKeeper 75 = .ok (.return_, 1) := by decide +kernel
theorem dX9_goKeeper_76 : decode cX9_goKeeper 76 = .ok (.iload_n 1, 1) := by decide +kernel
theorem dX9_goKeeper_77 : decode cX9_goKeeper 77 = .ok (.aload_n 0, 1) := by decide +kernel
theorem dX9_goKeeper_78 : decode cX9_goKeeper 78 = .ok (.getfield 116, 3) := by decide +kernel
theorem dX9_goKeeper_81 : decode cX9_goKeeper 81 = .ok (.if_icmp .eq 15, 3) := by decide +kernel
theorem dX9_goKeeper_84 : decode cX9_goKeeper 84 = .ok (.aload_n 0, 1) := by decide +kernel
theorem dX9_goKeeper_85 : decode cX9_goKeeper 85 = .ok (.dup, 1) := by decide +kernel
theorem dX9_goKeeper_86 : decode cX9_goKeeper 86 = .ok (.getfield 19, 3) := by decide +kernel
theorem dX9_goKeeper_89 : decode cX9_goKeeper 89 = .ok (.iconst 1, 1) := by decide +kernel
theorem dX9_goKeeper_90 : decode cX9_goKeeper 90 = .ok (.iload_n 1, 1) := by decide +kernel
theorem dX9_goKeeper_91 : decode cX9_goKeeper 91 = .ok (.ishl, 1) := by decide +kernel
theorem dX9_goKeeper_92 : decode cX9_goKeeper 92 = .ok (.ior, 1) := by decide +kernel
theorem dX9_goKeeper_93 : decode cX9_goKeeper 93 = .ok (.putfield 19, 3) := by decide +kernel
theorem dX9_goKeeper_96 : decode cX9_goKeeper 96 = .ok (.aload_n 0, 1) := by decide +kernel
theorem dX9_goKeeper_97 : decode cX9_goKeeper 97 = .ok (.dup, 1) := by decide +kernel
theorem dX9_goKeeper_98 : decode cX9_goKeeper 98 = .ok (.getfield 31, 3) := by decide +kernel
theorem dX9_goKeeper_101 : decode cX9_goKeeper 101 = .ok (.iconst 1, 1) := by decide +kernel
theorem dX9_goKeeper_102 : decode cX9_goKeeper 102 = .ok (.iadd, 1) := by decide +kernel
theorem dX9_goKeeper_103 : decode cX9_goKeeper 103 = .ok (.putfield 31, 3) := by decide +kernel
theorem dX9_goKeeper_106 : decode cX9_goKeeper 106 = .ok (.return_, 1) := by decide +kernel
theorem dX9_goMinute_0 : decode cX9_goMinute 0 = .ok (.aload_n 0, 1) := by decide +kernel
theorem dX9_goMinute_1 : decode cX9_goMinute 1 = .ok (.aload_n 0, 1) := by decide +kernel
theorem dX9_goMinute_2 : decode cX9_goMinute 2 = .ok (.getfield 22, 3) := by decide +kernel
theorem dX9_goMinute_5 : decode cX9_goMinute 5 = .ok (.putfield 126, 3) := by decide +kernel
theorem dX9_goMinute_8 : decode cX9_goMinute 8 = .ok (.aload_n 0, 1) := by decide +kernel
theorem dX9_goMinute_9 : decode cX9_goMinute 9 = .ok (.aload_n 0, 1) := by decide +kernel
theorem dX9_goMinute_10 : decode cX9_goMinute 10 = .ok (.getfield 25, 3) := by decide +kernel
theorem dX9_goMinute_13 : decode cX9_goMinute 13 = .ok (.putfield 129, 3) := by decide +kernel
theorem dX9_goMinute_16 : decode cX9_goMinute 16 = .ok (.iconst 0, 1) := by decide +kernel
theorem dX9_goMinute_17 : decode cX9_goMinute 17 = .ok (.istore_n 1, 1) := by decide +kernel
theorem dX9_goMinute_18 : decode cX9_goMinute 18 = .ok (.iload_n 1, 1) := by decide +kernel
theorem dX9_goMinute_19 : decode cX9_goMinute 19 = .ok (.aload_n 0, 1) := by decide +kernel
theorem dX9_goMinute_20 : decode cX9_goMinute 20 = .ok (.getfield 13, 3) := by decide +kernel
theorem dX9_goMinute_23 : decode cX9_goMinute 23 = .ok (.if_icmp .ge 14, 3) := by decide +kernel
theorem dX9_goMinute_26 : decode cX9_goMinute 26 = .ok (.aload_n 0, 1) := by decide +kernel
theorem dX9_goMinute_27 : decode cX9_goMinute 27 = .ok (.iload_n 1, 1) := by decide +kernel
theorem dX9_goMinute_28 : decode cX9_goMinute 28 = .ok (.invokevirtual 409, 3) := by decide +kernel
theorem dX9_goMinute_31 : decode cX9_goMinute 31 = .ok (.iinc 1 1, 3) := by decide +kernel
theorem dX9_goMinute_34 : decode cX9_goMinute 34 = .ok (.goto (-16), 3) := by decide +kernel
theorem dX9_goMinute_37 : decode cX9_goMinute 37 = .ok (.aload_n 0, 1) := by decide +kernel
theorem dX9_goMinute_38 : decode cX9_goMinute 38 = .ok (.invokevirtual 412, 3) := by decide +kernel
theorem dX9_goMinute_41 : decode cX9_goMinute 41 = .ok (.iconst 0, 1) := by decide +kernel
theorem dX9_goMinute_42 : decode cX9_goMinute 42 = .ok (.istore_n 1, 1) := by decide +kernel
theorem dX9_goMinute_43 : decode cX9_goMinute 43 = .ok (.iload_n 1, 1) := by decide +kernel
theorem dX9_goMinute_44 : decode cX9_goMinute 44 = .ok (.aload_n 0, 1) := by decide +kernel
theorem dX9_goMinute_45 : decode cX9_goMinute 45 = .ok (.getfield 13, 3) := by decide +kernel
theorem dX9_goMinute_48 : decode cX9_goMinute 48 = .ok (.if_icmp .ge 21, 3) := by decide +kernel
theorem dX9_goMinute_51 : decode cX9_goMinute 51 = .ok (.aload_n 0, 1) := by decide +kernel
theorem dX9_goMinute_52 : decode cX9_goMinute 52 = .ok (.getfield 47, 3) := by decide +kernel
theorem dX9_goMinute_55 : decode cX9_goMinute 55 = .ok (.iload_n 1, 1) := by decide +kernel
theorem dX9_goMinute_56 : decode cX9_goMinute 56 = .ok (.aload_n 0, 1) := by decide +kernel
theorem dX9_goMinute_57 : decode cX9_goMinute 57 = .ok (.getfield 123, 3) := by decide +kernel
theorem dX9_goMinute_60 : decode cX9_goMinute 60 = .ok (.iload_n 1, 1) := by decide +kernel
theorem dX9_goMinute_61 : decode cX9_goMinute 61 = .ok (.iaload, 1) := by decide +kernel
theorem dX9_goMinute_62 : decode cX9_goMinute 62 = .ok (.iastore, 1) := by decide +kernel
theorem dX9_goMinute_63 : decode cX9_goMinute 63 = .ok (.iinc 1 1, 3) := by decide +kernel
theorem dX9_goMinute_66 : decode cX9_goMinute 66 = .ok (.goto (-23), 3) := by decide +kernel
theorem dX9_goMinute_69 : decode cX9_goMinute 69 = .ok (.aload_n 0, 1) := by decide +kernel
theorem dX9_goMinute_70 : decode cX9_goMinute 70 = .ok (.aload_n 0, 1) := by decide +kernel
theorem dX9_goMinute_71 : decode cX9_goMinute 71 = .ok (.getfield 126, 3) := by decide +kernel
theorem dX9_goMinute_74 : decode cX9_goMinute 74 = .ok (.putfield 22, 3) := by decide +kernel
theorem dX9_goMinute_77 : decode cX9_goMinute 77 = .ok (.aload_n 0, 1) := by decide +kernel
theorem dX9_goMinute_78 : decode cX9_goMinute 78 = .ok (.aload_n 0, 1) := by decide +kernel
theorem dX9_goMinute_79 : decode cX9_goMinute 79 = .ok (.getfield 129, 3) := by decide +kernel
theorem dX9_goMinute_82 : decode cX9_goMinute 82 = .ok (.putfield 25, 3) := by decide +kernel
theorem dX9_goMinute_85 : decode cX9_goMinute 85 = .ok (.aload_n 0, 1) := by decide +kernel
theorem dX9_goMinute_86 : decode cX9_goMinute 86 = .ok (.dup, 1) := by decide +kernel
theorem dX9_goMinute_87 : decode cX9_goMinute 87 = .ok (.getfield 16, 3) := by decide +kernel
theorem dX9_goMinute_90 : decode cX9_goMinute 90 = .ok (.iconst 1, 1) := by decide +kernel
theorem dX9_goMinute_91 : decode cX9_goMinute 91 = .ok (.iadd, 1) := by decide +kernel
theorem dX9_goMinute_92 : decode cX9_goMinute 92 = .ok (.putfield 16, 3) := by decide +kernel
theorem dX9_goMinute_95 : decode cX9_goMinute 95 = .ok (.return_, 1) := by decide +kernel
theorem dX9_goMinutes_0 : decode cX9_goMinutes 0 = .ok (.iconst 0, 1) := by decide +kernel
theorem dX9_goMinutes_1 : decode cX9_goMinutes 1 = .ok (.istore_n 2, 1) := by decide +kernel
theorem dX9_goMinutes_2 : decode cX9_goMinutes 2 = .ok (.iload_n 2, 1) := by decide +kernel
theorem dX9_goMinutes_3 : decode cX9_goMinutes 3 = .ok (.iload_n 1, 1) := by decide +kernel
theorem dX9_goMinutes_4 : decode cX9_goMinutes 4 = .ok (.if_icmp .ge 13, 3) := by decide +kernel
theorem dX9_goMinutes_7 : decode cX9_goMinutes 7 = .ok (.aload_n 0, 1) := by decide +kernel
theorem dX9_goMinutes_8 : decode cX9_goMinutes 8 = .ok (.invokevirtual 415, 3) := by decide +kernel
theorem dX9_goMinutes_11 : decode cX9_goMinutes 11 = .ok (.iinc 2 1, 3) := by decide +kernel
theorem dX9_goMinutes_14 : decode cX9_goMinutes 14 = .ok (.goto (-12), 3) := by decide +kernel
theorem dX9_goMinutes_17 : decode cX9_goMinutes 17 = .ok (.return_, 1) := by decide +kernel
theorem dX9_pass_0 : decode cX9_pass 0 = .ok (.aload_n 0, 1) := by decide +kernel
theorem dX9_pass_1 : decode cX9_pass 1 = .ok (.iload_n 1, 1) := by decide +kernel
theorem dX9_pass_2 : decode cX9_pass 2 = .ok (.iconst 0, 1) := by decide +kernel
theorem dX9_pass_3 : decode cX9_pass 3 = .ok (.bipush 60, 2) := by decide +kernel
theorem dX9_pass_5 : decode cX9_pass 5 = .ok (.invokevirtual 293, 3) := by decide +kernel
theorem dX9_pass_8 : decode cX9_pass 8 = .ok (.ifCond .ne 6, 3) := by decide +kernel
theorem dX9_pass_11 : decode cX9_pass 11 = .ok (.bipush (-2), 2) := by decide +kernel
theorem dX9_pass_13 : decode cX9_pass 13 = .ok (.ireturn, 1) := by decide +kernel
theorem dX9_pass_14 : decode cX9_pass 14 = .ok (.aload_n 0, 1) := by decide +kernel
theorem dX9_pass_15 : decode cX9_pass 15 = .ok (.getfield 16, 3) := by decide +kernel
theorem dX9_pass_18 : decode cX9_pass 18 = .ok (.iload_n 1, 1) := by decide +kernel
theorem dX9_pass_19 : decode cX9_pass 19 = .ok (.iadd, 1) := by decide +kernel
theorem dX9_pass_20 : decode cX9_pass 20 = .ok (.sipush 9999, 3) := by decide +kernel
theorem dX9_pass_23 : decode cX9_pass 23 = .ok (.if_icmp .le 6, 3) := by decide +kernel
theorem dX9_pass_26 : decode cX9_pass 26 = .ok (.bipush (-3), 2) := by decide +kernel
theorem dX9_pass_28 : decode cX9_pass 28 = .ok (.ireturn, 1) := by decide +kernel
theorem dX9_pass_29 : decode cX9_pass 29 = .ok (.aload_n 0, 1) := by decide +kernel
theorem dX9_pass_30 : decode cX9_pass 30 = .ok (.iload_n 1, 1) := by decide +kernel
theorem dX9_pass_31 : decode cX9_pass 31 = .ok (.invokevirtual 418, 3) := by decide +kernel
theorem dX9_pass_34 : decode cX9_pass 34 = .ok (.aload_n 0, 1) := by decide +kernel
theorem dX9_pass_35 : decode cX9_pass 35 = .ok (.getfield 16, 3) := by decide +kernel
theorem dX9_pass_38 : decode cX9_pass 38 = .ok (.ireturn, 1) := by decide +kernel
theorem dX9_save_0 : decode cX9_save 0 = .ok (.aload_n 0, 1) := by decide +kernel
theorem dX9_save_1 : decode cX9_save 1 = .ok (.aload_n 0, 1) := by decide +kernel
theorem dX9_save_2 : decode cX9_save 2 = .ok (.getfield 16, 3) := by decide +kernel
theorem dX9_save_5 : decode cX9_save 5 = .ok (.putfield 132, 3) := by decide +kernel
theorem dX9_save_8 : decode cX9_save 8 = .ok (.aload_n 0, 1) := by decide +kernel
theorem dX9_save_9 : decode cX9_save 9 = .ok (.aload_n 0, 1) := by decide +kernel
theorem dX9_save_10 : decode cX9_save 10 = .ok (.getfield 19, 3) := by decide +kernel
theorem dX9_save_13 : decode cX9_save 13 = .ok (.putfield 135, 3) := by decide +kernel
theorem dX9_save_16 : decode cX9_save 16 = .ok (.aload_n 0, 1) := by decide +kernel
theorem dX9_save_17 : decode cX9_save 17 = .ok (.aload_n 0, 1) := by decide +kernel
theorem dX9_save_18 : decode cX9_save 18 = .ok (.getfield 22, 3) := by decide +kernel
theorem dX9_save_21 : decode cX9_save 21 = .ok (.putfield 138, 3) := by decide +kernel
theorem dX9_save_24 : decode cX9_save 24 = .ok (.aload_n 0, 1) := by decide +kernel
theorem dX9_save_25 : decode cX9_save 25 = .ok (.aload_n 0, 1) := by decide +kernel
theorem dX9_save_26 : decode cX9_save 26 = .ok (.getfield 25, 3) := by decide +kernel
theorem dX9_save_29 : decode cX9_save 29 = .ok (.putfield 141, 3) := by decide +kernel
theorem dX9_save_32 : decode cX9_save 32 = .ok (.aload_n 0, 1) := by decide +kernel
theorem dX9_save_33 : decode cX9_save 33 = .ok (.aload_n 0, 1) := by decide +kernel
theorem dX9_save_34 : decode cX9_save 34 = .ok (.getfield 28, 3) := by decide +kernel
theorem dX9_save_37 : decode cX9_save 37 = .ok (.putfield 144, 3) := by decide +kernel
theorem dX9_save_40 : decode cX9_save 40 = .ok (.aload_n 0, 1) := by decide +kernel
theorem dX9_save_41 : decode cX9_save 41 = .ok (.aload_n 0, 1) := by decide +kernel
theorem dX9_save_42 : decode cX9_save 42 = .ok (.getfield 31, 3) := by decide +kernel
theorem dX9_save_45 : decode cX9_save 45 = .ok (.putfield 147, 3) := by decide +kernel
theorem dX9_save_48 : decode cX9_save 48 = .ok (.iconst 0, 1) := by decide +kernel
theorem dX9_save_49 : decode cX9_save 49 = .ok (.istore_n 1, 1) := by decide +kernel
theorem dX9_save_50 : decode cX9_save 50 = .ok (.iload_n 1, 1) := by decide +kernel
theorem dX9_save_51 : decode cX9_save 51 = .ok (.bipush 6, 2) := by decide +kernel
theorem dX9_save_53 : decode cX9_save 53 = .ok (.if_icmp .ge 45, 3) := by decide +kernel
theorem dX9_save_56 : decode cX9_save 56 = .ok (.aload_n 0, 1) := by decide +kernel
theorem dX9_save_57 : decode cX9_save 57 = .ok (.getfield 150, 3) := by decide +kernel
theorem dX9_save_60 : decode cX9_save 60 = .ok (.iload_n 1, 1) := by decide +kernel
theorem dX9_save_61 : decode cX9_save 61 = .ok (.aload_n 0, 1) := by decide +kernel
theorem dX9_save_62 : decode cX9_save 62 = .ok (.getfield 47, 3) := by decide +kernel
theorem dX9_save_65 : decode cX9_save 65 = .ok (.iload_n 1, 1) := by decide +kernel
theorem dX9_save_66 : decode cX9_save 66 = .ok (.iaload, 1) := by decide +kernel
theorem dX9_save_67 : decode cX9_save 67 = .ok (.iastore, 1) := by decide +kernel
theorem dX9_save_68 : decode cX9_save 68 = .ok (.aload_n 0, 1) := by decide +kernel
theorem dX9_save_69 : decode cX9_save 69 = .ok (.getfield 153, 3) := by decide +kernel
theorem dX9_save_72 : decode cX9_save 72 = .ok (.iload_n 1, 1) := by decide +kernel
theorem dX9_save_73 : decode cX9_save 73 = .ok (.aload_n 0, 1) := by decide +kernel
theorem dX9_save_74 : decode cX9_save 74 = .ok (.getfield 50, 3) := by decide +kernel
theorem dX9_save_77 : decode cX9_save 77 = .ok (.iload_n 1, 1) := by decide +kernel
theorem dX9_save_78 : decode cX9_save 78 = .ok (.iaload, 1) := by decide +kernel
theorem dX9_save_79 : decode cX9_save 79 = .ok (.iastore, 1) := by decide +kernel
theorem dX9_save_80 : decode cX9_save 80 = .ok (.aload_n 0, 1) := by decide +kernel
theorem dX9_save_81 : decode cX9_save 81 = .ok (.getfield 156, 3) := by decide +kernel
theorem dX9_save_84 : decode cX9_save 84 = .ok (.iload_n 1, 1) := by decide +kernel
theorem dX9_save_85 : decode cX9_save 85 = .ok (.aload_n 0, 1) := by decide +kernel
theorem dX9_save_86 : decode cX9_save 86 = .ok (.getfield 56, 3) := by decide +kernel
theorem dX9_save_89 : decode cX9_save 89 = .ok (.iload_n 1, 1) := by decide +kernel
theorem dX9_save_90 : decode cX9_save 90 = .ok (.iaload, 1) := by decide +kernel
theorem dX9_save_91 : decode cX9_save 91 = .ok (.iastore, 1) := by decide +kernel
theorem dX9_save_92 : decode cX9_save 92 = .ok (.iinc 1 1, 3) := by decide +kernel
theorem dX9_save_95 : decode cX9_save 95 = .ok (.goto (-45), 3) := by decide +kernel
theorem dX9_save_98 : decode cX9_save 98 = .ok (.return_, 1) := by decide +kernel
theorem dX9_putBack_0 : decode cX9_putBack 0 = .ok (.aload_n 0, 1) := by decide +kernel
theorem dX9_putBack_1 : decode cX9_putBack 1 = .ok (.aload_n 0, 1) := by decide +kernel
theorem dX9_putBack_2 : decode cX9_putBack 2 = .ok (.getfield 132, 3) := by decide +kernel
theorem dX9_putBack_5 : decode cX9_putBack 5 = .ok (.putfield 16, 3) := by decide +kernel
theorem dX9_putBack_8 : decode cX9_putBack 8 = .ok (.aload_n 0, 1) := by decide +kernel
theorem dX9_putBack_9 : decode cX9_putBack 9 = .ok (.aload_n 0, 1) := by decide +kernel
theorem dX9_putBack_10 : decode cX9_putBack 10 = .ok (.getfield 135, 3) := by decide +kernel
theorem dX9_putBack_13 : decode cX9_putBack 13 = .ok (.putfield 19, 3) := by decide +kernel
theorem dX9_putBack_16 : decode cX9_putBack 16 = .ok (.aload_n 0, 1) := by decide +kernel
theorem dX9_putBack_17 : decode cX9_putBack 17 = .ok (.aload_n 0, 1) := by decide +kernel
theorem dX9_putBack_18 : decode cX9_putBack 18 = .ok (.getfield 138, 3) := by decide +kernel
theorem dX9_putBack_21 : decode cX9_putBack 21 = .ok (.putfield 22, 3) := by decide +kernel
theorem dX9_putBack_24 : decode cX9_putBack 24 = .ok (.aload_n 0, 1) := by decide +kernel
theorem dX9_putBack_25 : decode cX9_putBack 25 = .ok (.aload_n 0, 1) := by decide +kernel
theorem dX9_putBack_26 : decode cX9_putBack 26 = .ok (.getfield 141, 3) := by decide +kernel
theorem dX9_putBack_29 : decode cX9_putBack 29 = .ok (.putfield 25, 3) := by decide +kernel
theorem dX9_putBack_32 : decode cX9_putBack 32 = .ok (.aload_n 0, 1) := by decide +kernel
theorem dX9_putBack_33 : decode cX9_putBack 33 = .ok (.aload_n 0, 1) := by decide +kernel
theorem dX9_putBack_34 : decode cX9_putBack 34 = .ok (.getfield 144, 3) := by decide +kernel
theorem dX9_putBack_37 : decode cX9_putBack 37 = .ok (.putfield 28, 3) := by decide +kernel
theorem dX9_putBack_40 : decode cX9_putBack 40 = .ok (.aload_n 0, 1) := by decide +kernel
theorem dX9_putBack_41 : decode cX9_putBack 41 = .ok (.aload_n 0, 1) := by decide +kernel
theorem dX9_putBack_42 : decode cX9_putBack 42 = .ok (.getfield 147, 3) := by decide +kernel
theorem dX9_putBack_45 : decode cX9_putBack 45 = .ok (.putfield 31, 3) := by decide +kernel
theorem dX9_putBack_48 : decode cX9_putBack 48 = .ok (.aload_n 0, 1) := by decide +kernel
theorem dX9_putBack_49 : decode cX9_putBack 49 = .ok (.iconst (-1), 1) := by decide +kernel
theorem dX9_putBack_50 : decode cX9_putBack 50 = .ok (.putfield 110, 3) := by decide +kernel
theorem dX9_putBack_53 : decode cX9_putBack 53 = .ok (.aload_n 0, 1) := by decide +kernel
theorem dX9_putBack_54 : decode cX9_putBack 54 = .ok (.iconst 0, 1) := by decide +kernel
theorem dX9_putBack_55 : decode cX9_putBack 55 = .ok (.putfield 113, 3) := by decide +kernel
theorem dX9_putBack_58 : decode cX9_putBack 58 = .ok (.aload_n 0, 1) := by decide +kernel
theorem dX9_putBack_59 : decode cX9_putBack 59 = .ok (.iconst (-1), 1) := by decide +kernel
theorem dX9_putBack_60 : decode cX9_putBack 60 = .ok (.putfield 116, 3) := by decide +kernel
theorem dX9_putBack_63 : decode cX9_putBack 63 = .ok (.iconst 0, 1) := by decide +kernel
theorem dX9_putBack_64 : decode cX9_putBack 64 = .ok (.istore_n 1, 1) := by decide +kernel
theorem dX9_putBack_65 : decode cX9_putBack 65 = .ok (.iload_n 1, 1) := by decide +kernel
theorem dX9_putBack_66 : decode cX9_putBack 66 = .ok (.bipush 6, 2) := by decide +kernel
theorem dX9_putBack_68 : decode cX9_putBack 68 = .ok (.if_icmp .ge 45, 3) := by decide +kernel
theorem dX9_putBack_71 : decode cX9_putBack 71 = .ok (.aload_n 0, 1) := by decide +kernel
theorem dX9_putBack_72 : decode cX9_putBack 72 = .ok (.getfield 47, 3) := by decide +kernel
theorem dX9_putBack_75 : decode cX9_putBack 75 = .ok (.iload_n 1, 1) := by decide +kernel
theorem dX9_putBack_76 : decode cX9_putBack 76 = .ok (.aload_n 0, 1) := by decide +kernel
theorem dX9_putBack_77 : decode cX9_putBack 77 = .ok (.getfield 150, 3) := by decide +kernel
theorem dX9_putBack_80 : decode cX9_putBack 80 = .ok (.iload_n 1, 1) := by decide +kernel
theorem dX9_putBack_81 : decode cX9_putBack 81 = .ok (.iaload, 1) := by decide +kernel
theorem dX9_putBack_82 : decode cX9_putBack 82 = .ok (.iastore, 1) := by decide +kernel
theorem dX9_putBack_83 : decode cX9_putBack 83 = .ok (.aload_n 0, 1) := by decide +kernel
theorem dX9_putBack_84 : decode cX9_putBack 84 = .ok (.getfield 50, 3) := by decide +kernel
theorem dX9_putBack_87 : decode cX9_putBack 87 = .ok (.iload_n 1, 1) := by decide +kernel
theorem dX9_putBack_88 : decode cX9_putBack 88 = .ok (.aload_n 0, 1) := by decide +kernel
theorem dX9_putBack_89 : decode cX9_putBack 89 = .ok (.getfield 153, 3) := by decide +kernel
theorem dX9_putBack_92 : decode cX9_putBack 92 = .ok (.iload_n 1, 1) := by decide +kernel
theorem dX9_putBack_93 : decode cX9_putBack 93 = .ok (.iaload, 1) := by decide +kernel
theorem dX9_putBack_94 : decode cX9_putBack 94 = .ok (.iastore, 1) := by decide +kernel
theorem dX9_putBack_95 : decode cX9_putBack 95 = .ok (.aload_n 0, 1) := by decide +kernel
theorem dX9_putBack_96 : decode cX9_putBack 96 = .ok (.getfield 56, 3) := by decide +kernel
theorem dX9_putBack_99 : decode cX9_putBack 99 = .ok (.iload_n 1, 1) := by decide +kernel
theorem dX9_putBack_100 : decode cX9_putBack 100 = .ok (.aload_n 0, 1) := by decide +kernel
theorem dX9_putBack_101 : decode cX9_putBack 101 = .ok (.getfield 156, 3) := by decide +kernel
theorem dX9_putBack_104 : decode cX9_putBack 104 = .ok (.iload_n 1, 1) := by decide +kernel
theorem dX9_putBack_105 : decode cX9_putBack 105 = .ok (.iaload, 1) := by decide +kernel
theorem dX9_putBack_106 : decode cX9_putBack 106 = .ok (.iastore, 1) := by decide +kernel
theorem dX9_putBack_107 : decode cX9_putBack 107 = .ok (.iinc 1 1, 3) := by decide +kernel
theorem dX9_putBack_110 : decode cX9_putBack 110 = .ok (.goto (-45), 3) := by decide +kernel
theorem dX9_putBack_113 : decode cX9_putBack 113 = .ok (.return_, 1) := by decide +kernel
theorem dX9_on_0 : decode cX9_on 0 = .ok (.aload_n 0, 1) := by decide +kernel
theorem dX9_on_1 : decode cX9_on 1 = .ok (.iload_n 2, 1) := by decide +kernel
theorem dX9_on_2 : decode cX9_on 2 = .ok (.iconst 0, 1) := by decide +kernel
theorem dX9_on_3 : decode cX9_on 3 = .ok (.iconst 2, 1) := by decide +kernel
theorem dX9_on_4 : decode cX9_on 4 = .ok (.invokevirtual 293, 3) := by decide +kernel
theorem dX9_on_7 : decode cX9_on 7 = .ok (.ifCond .ne 39, 3) := by decide +kernel
theorem dX9_on_10 : decode cX9_on 10 = .ok (.aload_n 0, 1) := by decide +kernel
theorem dX9_on_11 : decode cX9_on 11 = .ok (.iload_n 2, 1) := by decide +kernel
theorem dX9_on_12 : decode cX9_on 12 = .ok (.bipush 10, 2) := by decide +kernel
theorem dX9_on_14 : decode cX9_on 14 = .ok (.bipush 9, 2) := by decide +kernel
theorem dX9_on_16 : decode cX9_on 16 = .ok (.aload_n 0, 1) := by decide +kernel
theorem dX9_on_17 : decode cX9_on 17 = .ok (.getfield 13, 3) := by decide +kernel
theorem dX9_on_20 : decode cX9_on 20 = .ok (.iadd, 1) := by decide +kernel
theorem dX9_on_21 : decode cX9_on 21 = .ok (.invokevirtual 293, 3) := by decide +kernel
theorem dX9_on_24 : decode cX9_on 24 = .ok (.ifCond .ne 22, 3) := by decide +kernel
theorem dX9_on_27 : decode cX9_on 27 = .ok (.aload_n 0, 1) := by decide +kernel
theorem dX9_on_28 : decode cX9_on 28 = .ok (.iload_n 2, 1) := by decide +kernel
theorem dX9_on_29 : decode cX9_on 29 = .ok (.bipush 20, 2) := by decide +kernel
theorem dX9_on_31 : decode cX9_on 31 = .ok (.bipush 19, 2) := by decide +kernel
theorem dX9_on_33 : decode cX9_on 33 = .ok (.aload_n 0, 1) := by decide +kernel
theorem dX9_on_34 : decode cX9_on 34 = .ok (.getfield 13, 3) := by decide +kernel
theorem dX9_on_37 : decode cX9_on 37 = .ok (.iadd, 1) := by decide +kernel
theorem dX9_on_38 : decode cX9_on 38 = .ok (.invokevirtual 293, 3) := by decide +kernel
theorem dX9_on_41 : decode cX9_on 41 = .ok (.ifCond .ne 5, 3) := by decide +kernel
theorem dX9_on_44 : decode cX9_on 44 = .ok (.iconst (-1), 1) := by decide +kernel
theorem dX9_on_45 : decode cX9_on 45 = .ok (.ireturn, 1) := by decide +kernel
theorem dX9_on_46 : decode cX9_on 46 = .ok (.aload_n 0, 1) := by decide +kernel
theorem dX9_on_47 : decode cX9_on 47 = .ok (.iload_n 1, 1) := by decide +kernel
theorem dX9_on_48 : decode cX9_on 48 = .ok (.invokevirtual 421, 3) := by decide +kernel
theorem dX9_on_51 : decode cX9_on 51 = .ok (.ifCond .ne 6, 3) := by decide +kernel
theorem dX9_on_54 : decode cX9_on 54 = .ok (.bipush (-2), 2) := by decide +kernel
theorem dX9_on_56 : decode cX9_on 56 = .ok (.ireturn, 1) := by decide +kernel
theorem dX9_on_57 : decode cX9_on 57 = .ok (.aload_n 0, 1) := by decide +kernel
theorem dX9_on_58 : decode cX9_on 58 = .ok (.invokevirtual 424, 3) := by decide +kernel
theorem dX9_on_61 : decode cX9_on 61 = .ok (.aload_n 0, 1) := by decide +kernel
theorem dX9_on_62 : decode cX9_on 62 = .ok (.iload_n 1, 1) := by decide +kernel
theorem dX9_on_63 : decode cX9_on 63 = .ok (.invokevirtual 418, 3) := by decide +kernel
theorem dX9_on_66 : decode cX9_on 66 = .ok (.iload_n 2, 1) := by decide +kernel
theorem dX9_on_67 : decode cX9_on 67 = .ok (.ifCond .ne 10, 3) := by decide +kernel
theorem dX9_on_70 : decode cX9_on 70 = .ok (.aload_n 0, 1) := by decide +kernel
theorem dX9_on_71 : decode cX9_on 71 = .ok (.getfield 25, 3) := by decide +kernel
theorem dX9_on_74 : decode cX9_on 74 = .ok (.goto 54, 3) := by decide +kernel
theorem dX9_on_77 : decode cX9_on 77 = .ok (.iload_n 2, 1) := by decide +kernel
theorem dX9_on_78 : decode cX9_on 78 = .ok (.iconst 1, 1) := by decide +kernel
theorem dX9_on_79 : decode cX9_on 79 = .ok (.if_icmp .ne 10, 3) := by decide +kernel
theorem dX9_on_82 : decode cX9_on 82 = .ok (.aload_n 0, 1) := by decide +kernel
theorem dX9_on_83 : decode cX9_on 83 = .ok (.getfield 19, 3) := by decide +kernel
theorem dX9_on_86 : decode cX9_on 86 = .ok (.goto 42, 3) := by decide +kernel
theorem dX9_on_89 : decode cX9_on 89 = .ok (.iload_n 2, 1) := by decide +kernel
theorem dX9_on_90 : decode cX9_on 90 = .ok (.iconst 2, 1) := by decide +kernel
theorem dX9_on_91 : decode cX9_on 91 = .ok (.if_icmp .ne 10, 3) := by decide +kernel
theorem dX9_on_94 : decode cX9_on 94 = .ok (.aload_n 0, 1) := by decide +kernel
theorem dX9_on_95 : decode cX9_on 95 = .ok (.getfield 28, 3) := by decide +kernel
theorem dX9_on_98 : decode cX9_on 98 = .ok (.goto 30, 3) := by decide +kernel
theorem dX9_on_101 : decode cX9_on 101 = .ok (.iload_n 2, 1) := by decide +kernel
theorem dX9_on_102 : decode cX9_on 102 = .ok (.bipush 20, 2) := by decide +kernel
theorem dX9_on_104 : decode cX9_on 104 = .ok (.if_icmp .ge 15, 3) := by decide +kernel
theorem dX9_on_107 : decode cX9_on 107 = .ok (.aload_n 0, 1) := by decide +kernel
theorem dX9_on_108 : decode cX9_on 108 = .ok (.getfield 47, 3) := by decide +kernel
theorem dX9_on_111 : decode cX9_on 111 = .ok (.iload_n 2, 1) := by decide +kernel
theorem dX9_on_112 : decode cX9_on 112 = .ok (.bipush 10, 2) := by decide +kernel
theorem dX9_on_114 : decode cX9_on 114 = .ok (.isub, 1) := by decide +kernel
theorem dX9_on_115 : decode cX9_on 115 = .ok (.iaload, 1) := by decide +kernel
theorem dX9_on_116 : decode cX9_on 116 = .ok (.goto 12, 3) := by decide +kernel
theorem dX9_on_119 : decode cX9_on 119 = .ok (.aload_n 0, 1) := by decide +kernel
theorem dX9_on_120 : decode cX9_on 120 = .ok (.getfield 50, 3) := by decide +kernel
theorem dX9_on_123 : decode cX9_on 123 = .ok (.iload_n 2, 1) := by decide +kernel
theorem dX9_on_124 : decode cX9_on 124 = .ok (.bipush 20, 2) := by decide +kernel
theorem dX9_on_126 : decode cX9_on 126 = .ok (.isub, 1) := by decide +kernel
theorem dX9_on_127 : decode cX9_on 127 = .ok (.iaload, 1) := by decide +kernel
theorem dX9_on_128 : decode cX9_on 128 = .ok (.istore_n 3, 1) := by decide +kernel
theorem dX9_on_129 : decode cX9_on 129 = .ok (.aload_n 0, 1) := by decide +kernel
theorem dX9_on_130 : decode cX9_on 130 = .ok (.invokevirtual 427, 3) := by decide +kernel
theorem dX9_on_133 : decode cX9_on 133 = .ok (.iload_n 3, 1) := by decide +kernel
theorem dX9_on_134 : decode cX9_on 134 = .ok (.ireturn, 1) := by decide +kernel
theorem dX9_all_0 : decode cX9_all 0 = .ok (.iconst 1, 1) := by decide +kernel
theorem dX9_all_1 : decode cX9_all 1 = .ok (.aload_n 0, 1) := by decide +kernel
theorem dX9_all_2 : decode cX9_all 2 = .ok (.getfield 13, 3) := by decide +kernel
theorem dX9_all_5 : decode cX9_all 5 = .ok (.ishl, 1) := by decide +kernel
theorem dX9_all_6 : decode cX9_all 6 = .ok (.iconst 1, 1) := by decide +kernel
theorem dX9_all_7 : decode cX9_all 7 = .ok (.isub, 1) := by decide +kernel
theorem dX9_all_8 : decode cX9_all 8 = .ok (.ireturn, 1) := by decide +kernel
theorem dX9_clear_0 : decode cX9_clear 0 = .ok (.aload_n 0, 1) := by decide +kernel
theorem dX9_clear_1 : decode cX9_clear 1 = .ok (.invokevirtual 424, 3) := by decide +kernel
theorem dX9_clear_4 : decode cX9_clear 4 = .ok (.iconst 0, 1) := by decide +kernel
theorem dX9_clear_5 : decode cX9_clear 5 = .ok (.istore_n 1, 1) := by decide +kernel
theorem dX9_clear_6 : decode cX9_clear 6 = .ok (.iload_n 1, 1) := by decide +kernel
theorem dX9_clear_7 : decode cX9_clear 7 = .ok (.bipush 100, 2) := by decide +kernel
theorem dX9_clear_9 : decode cX9_clear 9 = .ok (.if_icmp .ge 24, 3) := by decide +kernel
theorem dX9_clear_12 : decode cX9_clear 12 = .ok (.aload_n 0, 1) := by decide +kernel
theorem dX9_clear_13 : decode cX9_clear 13 = .ok (.getfield 25, 3) := by decide +kernel
theorem dX9_clear_16 : decode cX9_clear 16 = .ok (.aload_n 0, 1) := by decide +kernel
theorem dX9_clear_17 : decode cX9_clear 17 = .ok (.invokevirtual 430, 3) := by decide +kernel
theorem dX9_clear_20 : decode cX9_clear 20 = .ok (.if_icmp .eq 13, 3) := by decide +kernel
theorem dX9_clear_23 : decode cX9_clear 23 = .ok (.aload_n 0, 1) := by decide +kernel
theorem dX9_clear_24 : decode cX9_clear 24 = .ok (.invokevirtual 415, 3) := by decide +kernel
theorem dX9_clear_27 : decode cX9_clear 27 = .ok (.iinc 1 1, 3) := by decide +kernel
theorem dX9_clear_30 : decode cX9_clear 30 = .ok (.goto (-24), 3) := by decide +kernel
theorem dX9_clear_33 : decode cX9_clear 33 = .ok (.aload_n 0, 1) := by decide +kernel
theorem dX9_clear_34 : decode cX9_clear 34 = .ok (.invokevirtual 427, 3) := by decide +kernel
theorem dX9_clear_37 : decode cX9_clear 37 = .ok (.iload_n 1, 1) := by decide +kernel
theorem dX9_clear_38 : decode cX9_clear 38 = .ok (.bipush 100, 2) := by decide +kernel
theorem dX9_clear_40 : decode cX9_clear 40 = .ok (.if_icmp .ge 7, 3) := by decide +kernel
theorem dX9_clear_43 : decode cX9_clear 43 = .ok (.iload_n 1, 1) := by decide +kernel
theorem dX9_clear_44 : decode cX9_clear 44 = .ok (.goto 5, 3) := by decide +kernel
theorem dX9_clear_47 : decode cX9_clear 47 = .ok (.bipush (-5), 2) := by decide +kernel
theorem dX9_clear_49 : decode cX9_clear 49 = .ok (.ireturn, 1) := by decide +kernel
theorem dX9_stay_0 : decode cX9_stay 0 = .ok (.aload_n 0, 1) := by decide +kernel
theorem dX9_stay_1 : decode cX9_stay 1 = .ok (.invokevirtual 430, 3) := by decide +kernel
theorem dX9_stay_4 : decode cX9_stay 4 = .ok (.aload_n 0, 1) := by decide +kernel
theorem dX9_stay_5 : decode cX9_stay 5 = .ok (.bipush 99, 2) := by decide +kernel
theorem dX9_stay_7 : decode cX9_stay 7 = .ok (.iconst 0, 1) := by decide +kernel
theorem dX9_stay_8 : decode cX9_stay 8 = .ok (.invokevirtual 433, 3) := by decide +kernel
theorem dX9_stay_11 : decode cX9_stay 11 = .ok (.iconst (-1), 1) := by decide +kernel
theorem dX9_stay_12 : decode cX9_stay 12 = .ok (.ixor, 1) := by decide +kernel
theorem dX9_stay_13 : decode cX9_stay 13 = .ok (.iand, 1) := by decide +kernel
theorem dX9_stay_14 : decode cX9_stay 14 = .ok (.ireturn, 1) := by decide +kernel
theorem dX9_leftThen_0 : decode cX9_leftThen 0 = .ok (.aload_n 0, 1) := by decide +kernel
theorem dX9_leftThen_1 : decode cX9_leftThen 1 = .ok (.bipush 60, 2) := by decide +kernel
theorem dX9_leftThen_3 : decode cX9_leftThen 3 = .ok (.invokevirtual 418, 3) := by decide +kernel
theorem dX9_leftThen_6 : decode cX9_leftThen 6 = .ok (.aload_n 0, 1) := by decide +kernel
theorem dX9_leftThen_7 : decode cX9_leftThen 7 = .ok (.getfield 13, 3) := by decide +kernel
theorem dX9_leftThen_10 : decode cX9_leftThen 10 = .ok (.aload_n 0, 1) := by decide +kernel
theorem dX9_leftThen_11 : decode cX9_leftThen 11 = .ok (.aload_n 0, 1) := by decide +kernel
theorem dX9_leftThen_12 : decode cX9_leftThen 12 = .ok (.getfield 25, 3) := by decide +kernel
theorem dX9_leftThen_15 : decode cX9_leftThen 15 = .ok (.invokevirtual 375, 3) := by decide +kernel
theorem dX9_leftThen_18 : decode cX9_leftThen 18 = .ok (.isub, 1) := by decide +kernel
theorem dX9_leftThen_19 : decode cX9_leftThen 19 = .ok (.istore_n 1, 1) := by decide +kernel
theorem dX9_leftThen_20 : decode cX9_leftThen 20 = .ok (.aload_n 0, 1) := by decide +kernel
theorem dX9_leftThen_21 : decode cX9_leftThen 21 = .ok (.invokevirtual 427, 3) := by decide +kernel
theorem dX9_leftThen_24 : decode cX9_leftThen 24 = .ok (.iload_n 1, 1) := by decide +kernel
theorem dX9_leftThen_25 : decode cX9_leftThen 25 = .ok (.ireturn, 1) := by decide +kernel
theorem dX9_left_0 : decode cX9_left 0 = .ok (.aload_n 0, 1) := by decide +kernel
theorem dX9_left_1 : decode cX9_left 1 = .ok (.invokevirtual 424, 3) := by decide +kernel
theorem dX9_left_4 : decode cX9_left 4 = .ok (.aload_n 0, 1) := by decide +kernel
theorem dX9_left_5 : decode cX9_left 5 = .ok (.invokevirtual 436, 3) := by decide +kernel
theorem dX9_left_8 : decode cX9_left 8 = .ok (.ireturn, 1) := by decide +kernel
theorem dX9_firstOf_0 : decode cX9_firstOf 0 = .ok (.bipush (-5), 2) := by decide +kernel
theorem dX9_firstOf_2 : decode cX9_firstOf 2 = .ok (.istore_n 1, 1) := by decide +kernel
theorem dX9_firstOf_3 : decode cX9_firstOf 3 = .ok (.iconst 0, 1) := by decide +kernel
theorem dX9_firstOf_4 : decode cX9_firstOf 4 = .ok (.istore_n 2, 1) := by decide +kernel
theorem dX9_firstOf_5 : decode cX9_firstOf 5 = .ok (.iconst 0, 1) := by decide +kernel
theorem dX9_firstOf_6 : decode cX9_firstOf 6 = .ok (.istore_n 3, 1) := by decide +kernel
theorem dX9_firstOf_7 : decode cX9_firstOf 7 = .ok (.iload_n 3, 1) := by decide +kernel
theorem dX9_firstOf_8 : decode cX9_firstOf 8 = .ok (.aload_n 0, 1) := by decide +kernel
theorem dX9_firstOf_9 : decode cX9_firstOf 9 = .ok (.getfield 34, 3) := by decide +kernel
theorem dX9_firstOf_12 : decode cX9_firstOf 12 = .ok (.if_icmp .ge 81, 3) := by decide +kernel
theorem dX9_firstOf_15 : decode cX9_firstOf 15 = .ok (.aload_n 0, 1) := by decide +kernel
theorem dX9_firstOf_16 : decode cX9_firstOf 16 = .ok (.invokevirtual 424, 3) := by decide +kernel
theorem dX9_firstOf_19 : decode cX9_firstOf 19 = .ok (.iconst 0, 1) := by decide +kernel
theorem dX9_firstOf_20 : decode cX9_firstOf 20 = .ok (.istore 4, 2) := by decide +kernel
theorem dX9_firstOf_22 : decode cX9_firstOf 22 = .ok (.iload 4, 2) := by decide +kernel
theorem dX9_firstOf_24 : decode cX9_firstOf 24 = .ok (.aload_n 0, 1) := by decide +kernel
theorem dX9_firstOf_25 : decode cX9_firstOf 25 = .ok (.getfield 34, 3) := by decide +kernel
theorem dX9_firstOf_28 : decode cX9_firstOf 28 = .ok (.if_icmp .ge 30, 3) := by decide +kernel
theorem dX9_firstOf_31 : decode cX9_firstOf 31 = .ok (.aload_n 0, 1) := by decide +kernel
theorem dX9_firstOf_32 : decode cX9_firstOf 32 = .ok (.getfield 56, 3) := by decide +kernel
theorem dX9_firstOf_35 : decode cX9_firstOf 35 = .ok (.iload 4, 2) := by decide +kernel
theorem dX9_firstOf_37 : decode cX9_firstOf 37 = .ok (.aload_n 0, 1) := by decide +kernel
theorem dX9_firstOf_38 : decode cX9_firstOf 38 = .ok (.getfield 156, 3) := by decide +kernel
theorem dX9_firstOf_41 : decode cX9_firstOf 41 = .ok (.iload 4, 2) := by decide +kernel
theorem dX9_firstOf_43 : decode cX9_firstOf 43 = .ok (.iload_n 3, 1) := by decide +kernel
theorem dX9_firstOf_44 : decode cX9_firstOf 44 = .ok (.iadd, 1) := by decide +kernel
theorem dX9_firstOf_45 : decode cX9_firstOf 45 = .ok (.aload_n 0, 1) := by decide +kernel
theorem dX9_firstOf_46 : decode cX9_firstOf 46 = .ok (.getfield 34, 3) := by decide +kernel
theorem dX9_firstOf_49 : decode cX9_firstOf 49 = .ok (.irem, 1) := by decide +kernel
theorem dX9_firstOf_50 : decode cX9_firstOf 50 = .ok (.iaload, 1) := by decide +kernel
theorem dX9_firstOf_51 : decode cX9_firstOf 51 = .ok (.iastore, 1) := by decide +kernel
theorem dX9_firstOf_52 : decode cX9_firstOf 52 = .ok (.iinc 4 1, 3) := by decide +kernel
theorem dX9_firstOf_55 : decode cX9_firstOf 55 = .ok (.goto (-33), 3) := by decide +kernel
theorem dX9_firstOf_58 : decode cX9_firstOf 58 = .ok (.aload_n 0, 1) := by decide +kernel
theorem dX9_firstOf_59 : decode cX9_firstOf 59 = .ok (.iconst 0, 1) := by decide +kernel
theorem dX9_firstOf_60 : decode cX9_firstOf 60 = .ok (.putfield 31, 3) := by decide +kernel
theorem dX9_firstOf_63 : decode cX9_firstOf 63 = .ok (.aload_n 0, 1) := by decide +kernel
theorem dX9_firstOf_64 : decode cX9_firstOf 64 = .ok (.invokevirtual 436, 3) := by decide +kernel
theorem dX9_firstOf_67 : decode cX9_firstOf 67 = .ok (.istore 4, 2) := by decide +kernel
theorem dX9_firstOf_69 : decode cX9_firstOf 69 = .ok (.iload_n 1, 1) := by decide +kernel
theorem dX9_firstOf_70 : decode cX9_firstOf 70 = .ok (.ifCond .lt 12, 3) := by decide +kernel
theorem dX9_firstOf_73 : decode cX9_firstOf 73 = .ok (.iload 4, 2) := by decide +kernel
theorem dX9_firstOf_75 : decode cX9_firstOf 75 = .ok (.iload_n 2, 1) := by decide +kernel
theorem dX9_firstOf_76 : decode cX9_firstOf 76 = .ok (.if_icmp .lt 6, 3) := by decide +kernel
theorem dX9_firstOf_79 : decode cX9_firstOf 79 = .ok (.goto 8, 3) := by decide +kernel
theorem dX9_firstOf_82 : decode cX9_firstOf 82 = .ok (.iload_n 3, 1) := by decide +kernel
theorem dX9_firstOf_83 : decode cX9_firstOf 83 = .ok (.istore_n 1, 1) := by decide +kernel
theorem dX9_firstOf_84 : decode cX9_firstOf 84 = .ok (.iload 4, 2) := by decide +kernel
theorem dX9_firstOf_86 : decode cX9_firstOf 86 = .ok (.istore_n 2, 1) := by decide +kernel
theorem dX9_firstOf_87 : decode cX9_firstOf 87 = .ok (.iinc 3 1, 3) := by decide +kernel
theorem dX9_firstOf_90 : decode cX9_firstOf 90 = .ok (.goto (-83), 3) := by decide +kernel
theorem dX9_firstOf_93 : decode cX9_firstOf 93 = .ok (.iload_n 1, 1) := by decide +kernel
theorem dX9_firstOf_94 : decode cX9_firstOf 94 = .ok (.ireturn, 1) := by decide +kernel
theorem dX9_swapOf_0 : decode cX9_swapOf 0 = .ok (.bipush (-5), 2) := by decide +kernel
theorem dX9_swapOf_2 : decode cX9_swapOf 2 = .ok (.istore_n 1, 1) := by decide +kernel
theorem dX9_swapOf_3 : decode cX9_swapOf 3 = .ok (.aload_n 0, 1) := by decide +kernel
theorem dX9_swapOf_4 : decode cX9_swapOf 4 = .ok (.invokevirtual 439, 3) := by decide +kernel
theorem dX9_swapOf_7 : decode cX9_swapOf 7 = .ok (.istore_n 2, 1) := by decide +kernel
theorem dX9_swapOf_8 : decode cX9_swapOf 8 = .ok (.iconst 0, 1) := by decide +kernel
theorem dX9_swapOf_9 : decode cX9_swapOf 9 = .ok (.istore_n 3, 1) := by decide +kernel
theorem dX9_swapOf_10 : decode cX9_swapOf 10 = .ok (.iload_n 3, 1) := by decide +kernel
theorem dX9_swapOf_11 : decode cX9_swapOf 11 = .ok (.aload_n 0, 1) := by decide +kernel
theorem dX9_swapOf_12 : decode cX9_swapOf 12 = .ok (.getfield 34, 3) := by decide +kernel
theorem dX9_swapOf_15 : decode cX9_swapOf 15 = .ok (.if_icmp .ge 85, 3) := by decide +kernel
theorem dX9_swapOf_18 : decode cX9_swapOf 18 = .ok (.iload_n 3, 1) := by decide +kernel
theorem dX9_swapOf_19 : decode cX9_swapOf 19 = .ok (.iconst 1, 1) := by decide +kernel
theorem dX9_swapOf_20 : decode cX9_swapOf 20 = .ok (.iadd, 1) := by decide +kernel
theorem dX9_swapOf_21 : decode cX9_swapOf 21 = .ok (.istore 4, 2) := by decide +kernel
theorem dX9_swapOf_23 : decode cX9_swapOf 23 = .ok (.iload 4, 2) := by decide +kernel
theorem dX9_swapOf_25 : decode cX9_swapOf 25 = .ok (.aload_n 0, 1) := by decide +kernel
theorem dX9_swapOf_26 : decode cX9_swapOf 26 = .ok (.getfield 34, 3) := by decide +kernel
theorem dX9_swapOf_29 : decode cX9_swapOf 29 = .ok (.if_icmp .ge 65, 3) := by decide +kernel
theorem dX9_swapOf_32 : decode cX9_swapOf 32 = .ok (.aload_n 0, 1) := by decide +kernel
theorem dX9_swapOf_33 : decode cX9_swapOf 33 = .ok (.invokevirtual 424, 3) := by decide +kernel
theorem dX9_swapOf_36 : decode cX9_swapOf 36 = .ok (.aload_n 0, 1) := by decide +kernel
theorem dX9_swapOf_37 : decode cX9_swapOf 37 = .ok (.getfield 56, 3) := by decide +kernel
theorem dX9_swapOf_40 : decode cX9_swapOf 40 = .ok (.iload_n 3, 1) := by decide +kernel
theorem dX9_swapOf_41 : decode cX9_swapOf 41 = .ok (.aload_n 0, 1) := by decide +kernel
theorem dX9_swapOf_42 : decode cX9_swapOf 42 = .ok (.getfield 156, 3) := by decide +kernel
theorem dX9_swapOf_45 : decode cX9_swapOf 45 = .ok (.iload 4, 2) := by decide +kernel
theorem dX9_swapOf_47 : decode cX9_swapOf 47 = .ok (.iaload, 1) := by decide +kernel
theorem dX9_swapOf_48 : decode cX9_swapOf 48 = .ok (.iastore, 1) := by decide +kernel
theorem dX9_swapOf_49 : decode cX9_swapOf 49 = .ok (.aload_n 0, 1) := by decide +kernel
theorem dX9_swapOf_50 : decode cX9_swapOf 50 = .ok (.getfield 56, 3) := by decide +kernel
theorem dX9_swapOf_53 : decode cX9_swapOf 53 = .ok (.iload 4, 2) := by decide +kernel
theorem dX9_swapOf_55 : decode cX9_swapOf 55 = .ok (.aload_n 0, 1) := by decide +kernel
theorem dX9_swapOf_56 : decode cX9_swapOf 56 = .ok (.getfield 156, 3) := by decide +kernel
theorem dX9_swapOf_59 : decode cX9_swapOf 59 = .ok (.iload_n 3, 1) := by decide +kernel
theorem dX9_swapOf_60 : decode cX9_swapOf 60 = .ok (.iaload, 1) := by decide +kernel
theorem dX9_swapOf_61 : decode cX9_swapOf 61 = .ok (.iastore, 1) := by decide +kernel
theorem dX9_swapOf_62 : decode cX9_swapOf 62 = .ok (.aload_n 0, 1) := by decide +kernel
theorem dX9_swapOf_63 : decode cX9_swapOf 63 = .ok (.invokevirtual 436, 3) := by decide +kernel
theorem dX9_swapOf_66 : decode cX9_swapOf 66 = .ok (.istore 5, 2) := by decide +kernel
theorem dX9_swapOf_68 : decode cX9_swapOf 68 = .ok (.iload 5, 2) := by decide +kernel
theorem dX9_swapOf_70 : decode cX9_swapOf 70 = .ok (.iload_n 2, 1) := by decide +kernel
theorem dX9_swapOf_71 : decode cX9_swapOf 71 = .ok (.if_icmp .lt 6, 3) := by decide +kernel
theorem dX9_swapOf_74 : decode cX9_swapOf 74 = .ok (.goto 14, 3) := by decide +kernel
theorem dX9_swapOf_77 : decode cX9_swapOf 77 = .ok (.bipush 10, 2) := by decide +kernel
theorem dX9_swapOf_79 : decode cX9_swapOf 79 = .ok (.iload_n 3, 1) := by decide +kernel
theorem dX9_swapOf_80 : decode cX9_swapOf 80 = .ok (.imul, 1) := by decide +kernel
theorem dX9_swapOf_81 : decode cX9_swapOf 81 = .ok (.iload 4, 2) := by decide +kernel
theorem dX9_swapOf_83 : decode cX9_swapOf 83 = .ok (.iadd, 1) := by decide +kernel
theorem dX9_swapOf_84 : decode cX9_swapOf 84 = .ok (.istore_n 1, 1) := by decide +kernel
theorem dX9_swapOf_85 : decode cX9_swapOf 85 = .ok (.iload 5, 2) := by decide +kernel
theorem dX9_swapOf_87 : decode cX9_swapOf 87 = .ok (.istore_n 2, 1) := by decide +kernel
theorem dX9_swapOf_88 : decode cX9_swapOf 88 = .ok (.iinc 4 1, 3) := by decide +kernel
theorem dX9_swapOf_91 : decode cX9_swapOf 91 = .ok (.goto (-68), 3) := by decide +kernel
theorem dX9_swapOf_94 : decode cX9_swapOf 94 = .ok (.iinc 3 1, 3) := by decide +kernel
theorem dX9_swapOf_97 : decode cX9_swapOf 97 = .ok (.goto (-87), 3) := by decide +kernel
theorem dX9_swapOf_100 : decode cX9_swapOf 100 = .ok (.iload_n 1, 1) := by decide +kernel
theorem dX9_swapOf_101 : decode cX9_swapOf 101 = .ok (.ireturn, 1) := by decide +kernel
theorem dX9_quickOf_0 : decode cX9_quickOf 0 = .ok (.iconst 0, 1) := by decide +kernel
theorem dX9_quickOf_1 : decode cX9_quickOf 1 = .ok (.istore_n 1, 1) := by decide +kernel
theorem dX9_quickOf_2 : decode cX9_quickOf 2 = .ok (.bipush 7, 2) := by decide +kernel
theorem dX9_quickOf_4 : decode cX9_quickOf 4 = .ok (.istore_n 2, 1) := by decide +kernel
theorem dX9_quickOf_5 : decode cX9_quickOf 5 = .ok (.iconst 1, 1) := by decide +kernel
theorem dX9_quickOf_6 : decode cX9_quickOf 6 = .ok (.istore_n 3, 1) := by decide +kernel
theorem dX9_quickOf_7 : decode cX9_quickOf 7 = .ok (.iload_n 3, 1) := by decide +kernel
theorem dX9_quickOf_8 : decode cX9_quickOf 8 = .ok (.bipush 10, 2) := by decide +kernel
theorem dX9_quickOf_10 : decode cX9_quickOf 10 = .ok (.if_icmp .ge 38, 3) := by decide +kernel
theorem dX9_quickOf_13 : decode cX9_quickOf 13 = .ok (.aload_n 0, 1) := by decide +kernel
theorem dX9_quickOf_14 : decode cX9_quickOf 14 = .ok (.invokevirtual 424, 3) := by decide +kernel
theorem dX9_quickOf_17 : decode cX9_quickOf 17 = .ok (.aload_n 0, 1) := by decide +kernel
theorem dX9_quickOf_18 : decode cX9_quickOf 18 = .ok (.iload_n 3, 1) := by decide +kernel
theorem dX9_quickOf_19 : decode cX9_quickOf 19 = .ok (.putfield 110, 3) := by decide +kernel
theorem dX9_quickOf_22 : decode cX9_quickOf 22 = .ok (.aload_n 0, 1) := by decide +kernel
theorem dX9_quickOf_23 : decode cX9_quickOf 23 = .ok (.invokevirtual 436, 3) := by decide +kernel
theorem dX9_quickOf_26 : decode cX9_quickOf 26 = .ok (.istore 4, 2) := by decide +kernel
theorem dX9_quickOf_28 : decode cX9_quickOf 28 = .ok (.iload 4, 2) := by decide +kernel
theorem dX9_quickOf_30 : decode cX9_quickOf 30 = .ok (.iload_n 2, 1) := by decide +kernel
theorem dX9_quickOf_31 : decode cX9_quickOf 31 = .ok (.if_icmp .lt 6, 3) := by decide +kernel
theorem dX9_quickOf_34 : decode cX9_quickOf 34 = .ok (.goto 8, 3) := by decide +kernel
theorem dX9_quickOf_37 : decode cX9_quickOf 37 = .ok (.iload_n 3, 1) := by decide +kernel
theorem dX9_quickOf_38 : decode cX9_quickOf 38 = .ok (.istore_n 1, 1) := by decide +kernel
theorem dX9_quickOf_39 : decode cX9_quickOf 39 = .ok (.iload 4, 2) := by decide +kernel
theorem dX9_quickOf_41 : decode cX9_quickOf 41 = .ok (.istore_n 2, 1) := by decide +kernel
theorem dX9_quickOf_42 : decode cX9_quickOf 42 = .ok (.iinc 3 1, 3) := by decide +kernel
theorem dX9_quickOf_45 : decode cX9_quickOf 45 = .ok (.goto (-38), 3) := by decide +kernel
theorem dX9_quickOf_48 : decode cX9_quickOf 48 = .ok (.iload_n 1, 1) := by decide +kernel
theorem dX9_quickOf_49 : decode cX9_quickOf 49 = .ok (.ireturn, 1) := by decide +kernel
theorem dX9_waitOf_0 : decode cX9_waitOf 0 = .ok (.iconst 0, 1) := by decide +kernel
theorem dX9_waitOf_1 : decode cX9_waitOf 1 = .ok (.istore_n 1, 1) := by decide +kernel
theorem dX9_waitOf_2 : decode cX9_waitOf 2 = .ok (.bipush 7, 2) := by decide +kernel
theorem dX9_waitOf_4 : decode cX9_waitOf 4 = .ok (.istore_n 2, 1) := by decide +kernel
theorem dX9_waitOf_5 : decode cX9_waitOf 5 = .ok (.iconst 0, 1) := by decide +kernel
theorem dX9_waitOf_6 : decode cX9_waitOf 6 = .ok (.istore_n 3, 1) := by decide +kernel
theorem dX9_waitOf_7 : decode cX9_waitOf 7 = .ok (.iload_n 3, 1) := by decide +kernel
theorem dX9_waitOf_8 : decode cX9_waitOf 8 = .ok (.bipush 16, 2) := by decide +kernel
theorem dX9_waitOf_10 : decode cX9_waitOf 10 = .ok (.if_icmp .ge 38, 3) := by decide +kernel
theorem dX9_waitOf_13 : decode cX9_waitOf 13 = .ok (.aload_n 0, 1) := by decide +kernel
theorem dX9_waitOf_14 : decode cX9_waitOf 14 = .ok (.invokevirtual 424, 3) := by decide +kernel
theorem dX9_waitOf_17 : decode cX9_waitOf 17 = .ok (.aload_n 0, 1) := by decide +kernel
theorem dX9_waitOf_18 : decode cX9_waitOf 18 = .ok (.iload_n 3, 1) := by decide +kernel
theorem dX9_waitOf_19 : decode cX9_waitOf 19 = .ok (.putfield 113, 3) := by decide +kernel
theorem dX9_waitOf_22 : decode cX9_waitOf 22 = .ok (.aload_n 0, 1) := by decide +kernel
theorem dX9_waitOf_23 : decode cX9_waitOf 23 = .ok (.invokevirtual 436, 3) := by decide +kernel
theorem dX9_waitOf_26 : decode cX9_waitOf 26 = .ok (.istore 4, 2) := by decide +kernel
theorem dX9_waitOf_28 : decode cX9_waitOf 28 = .ok (.iload 4, 2) := by decide +kernel
theorem dX9_waitOf_30 : decode cX9_waitOf 30 = .ok (.iload_n 2, 1) := by decide +kernel
theorem dX9_waitOf_31 : decode cX9_waitOf 31 = .ok (.if_icmp .lt 6, 3) := by decide +kernel
theorem dX9_waitOf_34 : decode cX9_waitOf 34 = .ok (.goto 8, 3) := by decide +kernel
theorem dX9_waitOf_37 : decode cX9_waitOf 37 = .ok (.iload_n 3, 1) := by decide +kernel
theorem dX9_waitOf_38 : decode cX9_waitOf 38 = .ok (.istore_n 1, 1) := by decide +kernel
theorem dX9_waitOf_39 : decode cX9_waitOf 39 = .ok (.iload 4, 2) := by decide +kernel
theorem dX9_waitOf_41 : decode cX9_waitOf 41 = .ok (.istore_n 2, 1) := by decide +kernel
theorem dX9_waitOf_42 : decode cX9_waitOf 42 = .ok (.iinc 3 1, 3) := by decide +kernel
theorem dX9_waitOf_45 : decode cX9_waitOf 45 = .ok (.goto (-38), 3) := by decide +kernel
theorem dX9_waitOf_48 : decode cX9_waitOf 48 = .ok (.iload_n 1, 1) := by decide +kernel
theorem dX9_waitOf_49 : decode cX9_waitOf 49 = .ok (.ireturn, 1) := by decide +kernel
theorem dX9_openOf_0 : decode cX9_openOf 0 = .ok (.bipush (-5), 2) := by decide +kernel
theorem dX9_openOf_2 : decode cX9_openOf 2 = .ok (.istore_n 1, 1) := by decide +kernel
theorem dX9_openOf_3 : decode cX9_openOf 3 = .ok (.aload_n 0, 1) := by decide +kernel
theorem dX9_openOf_4 : decode cX9_openOf 4 = .ok (.invokevirtual 439, 3) := by decide +kernel
theorem dX9_openOf_7 : decode cX9_openOf 7 = .ok (.istore_n 2, 1) := by decide +kernel
theorem dX9_openOf_8 : decode cX9_openOf 8 = .ok (.iconst 0, 1) := by decide +kernel
theorem dX9_openOf_9 : decode cX9_openOf 9 = .ok (.istore_n 3, 1) := by decide +kernel
theorem dX9_openOf_10 : decode cX9_openOf 10 = .ok (.iload_n 3, 1) := by decide +kernel
theorem dX9_openOf_11 : decode cX9_openOf 11 = .ok (.aload_n 0, 1) := by decide +kernel
theorem dX9_openOf_12 : decode cX9_openOf 12 = .ok (.getfield 7, 3) := by decide +kernel
theorem dX9_openOf_15 : decode cX9_openOf 15 = .ok (.if_icmp .ge 52, 3) := by decide +kernel
theorem dX9_openOf_18 : decode cX9_openOf 18 = .ok (.aload_n 0, 1) := by decide +kernel
theorem dX9_openOf_19 : decode cX9_openOf 19 = .ok (.invokevirtual 424, 3) := by decide +kernel
theorem dX9_openOf_22 : decode cX9_openOf 22 = .ok (.aload_n 0, 1) := by decide +kernel
theorem dX9_openOf_23 : decode cX9_openOf 23 = .ok (.aload_n 0, 1) := by decide +kernel
theorem dX9_openOf_24 : decode cX9_openOf 24 = .ok (.aload_n 0, 1) := by decide +kernel
theorem dX9_openOf_25 : decode cX9_openOf 25 = .ok (.getfield 19, 3) := by decide +kernel
theorem dX9_openOf_28 : decode cX9_openOf 28 = .ok (.iload_n 3, 1) := by decide +kernel
theorem dX9_openOf_29 : decode cX9_openOf 29 = .ok (.iconst 0, 1) := by decide +kernel
theorem dX9_openOf_30 : decode cX9_openOf 30 = .ok (.invokevirtual 301, 3) := by decide +kernel
theorem dX9_openOf_33 : decode cX9_openOf 33 = .ok (.putfield 19, 3) := by decide +kernel
theorem dX9_openOf_36 : decode cX9_openOf 36 = .ok (.aload_n 0, 1) := by decide +kernel
theorem dX9_openOf_37 : decode cX9_openOf 37 = .ok (.iload_n 3, 1) := by decide +kernel
theorem dX9_openOf_38 : decode cX9_openOf 38 = .ok (.putfield 116, 3) := by decide +kernel
theorem dX9_openOf_41 : decode cX9_openOf 41 = .ok (.aload_n 0, 1) := by decide +kernel
theorem dX9_openOf_42 : decode cX9_openOf 42 = .ok (.invokevirtual 436, 3) := by decide +kernel
theorem dX9_openOf_45 : decode cX9_openOf 45 = .ok (.istore 4, 2) := by decide +kernel
theorem dX9_openOf_47 : decode cX9_openOf 47 = .ok (.iload 4, 2) := by decide +kernel
theorem dX9_openOf_49 : decode cX9_openOf 49 = .ok (.iload_n 2, 1) := by decide +kernel
theorem dX9_openOf_50 : decode cX9_openOf 50 = .ok (.if_icmp .lt 6, 3) := by decide +kernel
theorem dX9_openOf_53 : decode cX9_openOf 53 = .ok (.goto 8, 3) := by decide +kernel
theorem dX9_openOf_56 : decode cX9_openOf 56 = .ok (.iload_n 3, 1) := by decide +kernel
theorem dX9_openOf_57 : decode cX9_openOf 57 = .ok (.istore_n 1, 1) := by decide +kernel
theorem dX9_openOf_58 : decode cX9_openOf 58 = .ok (.iload 4, 2) := by decide +kernel
theorem dX9_openOf_60 : decode cX9_openOf 60 = .ok (.istore_n 2, 1) := by decide +kernel
theorem dX9_openOf_61 : decode cX9_openOf 61 = .ok (.iinc 3 1, 3) := by decide +kernel
theorem dX9_openOf_64 : decode cX9_openOf 64 = .ok (.goto (-54), 3) := by decide +kernel
theorem dX9_openOf_67 : decode cX9_openOf 67 = .ok (.iload_n 1, 1) := by decide +kernel
theorem dX9_openOf_68 : decode cX9_openOf 68 = .ok (.ireturn, 1) := by decide +kernel
theorem dX9_best_0 : decode cX9_best 0 = .ok (.iload_n 1, 1) := by decide +kernel
theorem dX9_best_1 : decode cX9_best 1 = .ok (.tableswitch 69 0 5 #[39, 44, 49, 54, 59, 64], 39) := by decide +kernel
theorem dX9_best_40 : decode cX9_best 40 = .ok (.aload_n 0, 1) := by decide +kernel
theorem dX9_best_41 : decode cX9_best 41 = .ok (.invokevirtual 442, 3) := by decide +kernel
theorem dX9_best_44 : decode cX9_best 44 = .ok (.ireturn, 1) := by decide +kernel
theorem dX9_best_45 : decode cX9_best 45 = .ok (.aload_n 0, 1) := by decide +kernel
theorem dX9_best_46 : decode cX9_best 46 = .ok (.invokevirtual 445, 3) := by decide +kernel
theorem dX9_best_49 : decode cX9_best 49 = .ok (.ireturn, 1) := by decide +kernel
theorem dX9_best_50 : decode cX9_best 50 = .ok (.aload_n 0, 1) := by decide +kernel
theorem dX9_best_51 : decode cX9_best 51 = .ok (.invokevirtual 448, 3) := by decide +kernel
theorem dX9_best_54 : decode cX9_best 54 = .ok (.ireturn, 1) := by decide +kernel
theorem dX9_best_55 : decode cX9_best 55 = .ok (.aload_n 0, 1) := by decide +kernel
theorem dX9_best_56 : decode cX9_best 56 = .ok (.invokevirtual 451, 3) := by decide +kernel
theorem dX9_best_59 : decode cX9_best 59 = .ok (.ireturn, 1) := by decide +kernel
theorem dX9_best_60 : decode cX9_best 60 = .ok (.aload_n 0, 1) := by decide +kernel
theorem dX9_best_61 : decode cX9_best 61 = .ok (.invokevirtual 454, 3) := by decide +kernel
theorem dX9_best_64 : decode cX9_best 64 = .ok (.ireturn, 1) := by decide +kernel
theorem dX9_best_65 : decode cX9_best 65 = .ok (.aload_n 0, 1) := by decide +kernel
theorem dX9_best_66 : decode cX9_best 66 = .ok (.invokevirtual 439, 3) := by decide +kernel
theorem dX9_best_69 : decode cX9_best 69 = .ok (.ireturn, 1) := by decide +kernel
theorem dX9_best_70 : decode cX9_best 70 = .ok (.iconst (-1), 1) := by decide +kernel
theorem dX9_best_71 : decode cX9_best 71 = .ok (.ireturn, 1) := by decide +kernel
theorem dX9_hides_0 : decode cX9_hides 0 = .ok (.aload_n 0, 1) := by decide +kernel
theorem dX9_hides_1 : decode cX9_hides 1 = .ok (.iload_n 1, 1) := by decide +kernel
theorem dX9_hides_2 : decode cX9_hides 2 = .ok (.invokevirtual 305, 3) := by decide +kernel
theorem dX9_hides_5 : decode cX9_hides 5 = .ok (.ifCond .ne 5, 3) := by decide +kernel
theorem dX9_hides_8 : decode cX9_hides 8 = .ok (.iconst (-1), 1) := by decide +kernel
theorem dX9_hides_9 : decode cX9_hides 9 = .ok (.ireturn, 1) := by decide +kernel
theorem dX9_hides_10 : decode cX9_hides 10 = .ok (.iconst 0, 1) := by decide +kernel
theorem dX9_hides_11 : decode cX9_hides 11 = .ok (.istore_n 2, 1) := by decide +kernel
theorem dX9_hides_12 : decode cX9_hides 12 = .ok (.iconst 0, 1) := by decide +kernel
theorem dX9_hides_13 : decode cX9_hides 13 = .ok (.istore_n 3, 1) := by decide +kernel
theorem dX9_hides_14 : decode cX9_hides 14 = .ok (.iload_n 3, 1) := by decide +kernel
theorem dX9_hides_15 : decode cX9_hides 15 = .ok (.bipush 30, 2) := by decide +kernel
theorem dX9_hides_17 : decode cX9_hides 17 = .ok (.if_icmp .ge 51, 3) := by decide +kernel
theorem dX9_hides_20 : decode cX9_hides 20 = .ok (.aload_n 0, 1) := by decide +kernel
theorem dX9_hides_21 : decode cX9_hides 21 = .ok (.invokevirtual 424, 3) := by decide +kernel
theorem dX9_hides_24 : decode cX9_hides 24 = .ok (.aload_n 0, 1) := by decide +kernel
theorem dX9_hides_25 : decode cX9_hides 25 = .ok (.iload_n 1, 1) := by decide +kernel
theorem dX9_hides_26 : decode cX9_hides 26 = .ok (.iload_n 3, 1) := by decide +kernel
theorem dX9_hides_27 : decode cX9_hides 27 = .ok (.invokevirtual 308, 3) := by decide +kernel
theorem dX9_hides_30 : decode cX9_hides 30 = .ok (.aload_n 0, 1) := by decide +kernel
theorem dX9_hides_31 : decode cX9_hides 31 = .ok (.bipush 30, 2) := by decide +kernel
theorem dX9_hides_33 : decode cX9_hides 33 = .ok (.invokevirtual 418, 3) := by decide +kernel
theorem dX9_hides_36 : decode cX9_hides 36 = .ok (.iload_n 2, 1) := by decide +kernel
theorem dX9_hides_37 : decode cX9_hides 37 = .ok (.aload_n 0, 1) := by decide +kernel
theorem dX9_hides_38 : decode cX9_hides 38 = .ok (.aload_n 0, 1) := by decide +kernel
theorem dX9_hides_39 : decode cX9_hides 39 = .ok (.getfield 25, 3) := by decide +kernel
theorem dX9_hides_42 : decode cX9_hides 42 = .ok (.iload_n 1, 1) := by decide +kernel
theorem dX9_hides_43 : decode cX9_hides 43 = .ok (.invokevirtual 312, 3) := by decide +kernel
theorem dX9_hides_46 : decode cX9_hides 46 = .ok (.ifCond .eq 7, 3) := by decide +kernel
theorem dX9_hides_49 : decode cX9_hides 49 = .ok (.iconst 0, 1) := by decide +kernel
theorem dX9_hides_50 : decode cX9_hides 50 = .ok (.goto 6, 3) := by decide +kernel
theorem dX9_hides_53 : decode cX9_hides 53 = .ok (.iconst 1, 1) := by decide +kernel
theorem dX9_hides_54 : decode cX9_hides 54 = .ok (.iload_n 3, 1) := by decide +kernel
theorem dX9_hides_55 : decode cX9_hides 55 = .ok (.ishl, 1) := by decide +kernel
theorem dX9_hides_56 : decode cX9_hides 56 = .ok (.ior, 1) := by decide +kernel
theorem dX9_hides_57 : decode cX9_hides 57 = .ok (.istore_n 2, 1) := by decide +kernel
theorem dX9_hides_58 : decode cX9_hides 58 = .ok (.aload_n 0, 1) := by decide +kernel
theorem dX9_hides_59 : decode cX9_hides 59 = .ok (.invokevirtual 427, 3) := by decide +kernel
theorem dX9_hides_62 : decode cX9_hides 62 = .ok (.iinc 3 1, 3) := by decide +kernel
theorem dX9_hides_65 : decode cX9_hides 65 = .ok (.goto (-51), 3) := by decide +kernel
theorem dX9_hides_68 : decode cX9_hides 68 = .ok (.iload_n 2, 1) := by decide +kernel
theorem dX9_hides_69 : decode cX9_hides 69 = .ok (.ireturn, 1) := by decide +kernel
theorem dX9_see_0 : decode cX9_see 0 = .ok (.iload_n 1, 1) := by decide +kernel
theorem dX9_see_1 : decode cX9_see 1 = .ok (.iconst (-1), 1) := by decide +kernel
theorem dX9_see_2 : decode cX9_see 2 = .ok (.if_icmp .ne 10, 3) := by decide +kernel
theorem dX9_see_5 : decode cX9_see 5 = .ok (.aload_n 0, 1) := by decide +kernel
theorem dX9_see_6 : decode cX9_see 6 = .ok (.iconst 0, 1) := by decide +kernel
theorem dX9_see_7 : decode cX9_see 7 = .ok (.putfield 159, 3) := by decide +kernel
theorem dX9_see_10 : decode cX9_see 10 = .ok (.iconst 0, 1) := by decide +kernel
theorem dX9_see_11 : decode cX9_see 11 = .ok (.ireturn, 1) := by decide +kernel
theorem dX9_see_12 : decode cX9_see 12 = .ok (.aload_n 0, 1) := by decide +kernel
theorem dX9_see_13 : decode cX9_see 13 = .ok (.iload_n 1, 1) := by decide +kernel
theorem dX9_see_14 : decode cX9_see 14 = .ok (.invokevirtual 305, 3) := by decide +kernel
theorem dX9_see_17 : decode cX9_see 17 = .ok (.ifCond .ne 5, 3) := by decide +kernel
theorem dX9_see_20 : decode cX9_see 20 = .ok (.iconst (-1), 1) := by decide +kernel
theorem dX9_see_21 : decode cX9_see 21 = .ok (.ireturn, 1) := by decide +kernel
theorem dX9_see_22 : decode cX9_see 22 = .ok (.aload_n 0, 1) := by decide +kernel
theorem dX9_see_23 : decode cX9_see 23 = .ok (.iload_n 3, 1) := by decide +kernel
theorem dX9_see_24 : decode cX9_see 24 = .ok (.iconst 0, 1) := by decide +kernel
theorem dX9_see_25 : decode cX9_see 25 = .ok (.bipush 20, 2) := by decide +kernel
theorem dX9_see_27 : decode cX9_see 27 = .ok (.invokevirtual 293, 3) := by decide +kernel
theorem dX9_see_30 : decode cX9_see 30 = .ok (.ifCond .ne 6, 3) := by decide +kernel
theorem dX9_see_33 : decode cX9_see 33 = .ok (.bipush (-2), 2) := by decide +kernel
theorem dX9_see_35 : decode cX9_see 35 = .ok (.ireturn, 1) := by decide +kernel
theorem dX9_see_36 : decode cX9_see 36 = .ok (.aload_n 0, 1) := by decide +kernel
theorem dX9_see_37 : decode cX9_see 37 = .ok (.getfield 159, 3) := by decide +kernel
theorem dX9_see_40 : decode cX9_see 40 = .ok (.iconst 5, 1) := by decide +kernel
theorem dX9_see_41 : decode cX9_see 41 = .ok (.if_icmp .ne 6, 3) := by decide +kernel
theorem dX9_see_44 : decode cX9_see 44 = .ok (.bipush (-4), 2) := by decide +kernel
theorem dX9_see_46 : decode cX9_see 46 = .ok (.ireturn, 1) := by decide +kernel
theorem dX9_see_47 : decode cX9_see 47 = .ok (.aload_n 0, 1) := by decide +kernel
theorem dX9_see_48 : decode cX9_see 48 = .ok (.getfield 162, 3) := by decide +kernel
theorem dX9_see_51 : decode cX9_see 51 = .ok (.aload_n 0, 1) := by decide +kernel
theorem dX9_see_52 : decode cX9_see 52 = .ok (.getfield 159, 3) := by decide +kernel
theorem dX9_see_55 : decode cX9_see 55 = .ok (.iload_n 1, 1) := by decide +kernel
theorem dX9_see_56 : decode cX9_see 56 = .ok (.iastore, 1) := by decide +kernel
theorem dX9_see_57 : decode cX9_see 57 = .ok (.aload_n 0, 1) := by decide +kernel
theorem dX9_see_58 : decode cX9_see 58 = .ok (.getfield 168, 3) := by decide +kernel
theorem dX9_see_61 : decode cX9_see 61 = .ok (.aload_n 0, 1) := by decide +kernel
theorem dX9_see_62 : decode cX9_see 62 = .ok (.getfield 159, 3) := by decide +kernel
theorem dX9_see_65 : decode cX9_see 65 = .ok (.iload_n 2, 1) := by decide +kernel
theorem dX9_see_66 : decode cX9_see 66 = .ok (.bastore, 1) := by decide +kernel
theorem dX9_see_67 : decode cX9_see 67 = .ok (.aload_n 0, 1) := by decide +kernel
theorem dX9_see_68 : decode cX9_see 68 = .ok (.getfield 165, 3) := by decide +kernel
theorem dX9_see_71 : decode cX9_see 71 = .ok (.aload_n 0, 1) := by decide +kernel
theorem dX9_see_72 : decode cX9_see 72 = .ok (.getfield 159, 3) := by decide +kernel
theorem dX9_see_75 : decode cX9_see 75 = .ok (.iload_n 3, 1) := by decide +kernel
theorem dX9_see_76 : decode cX9_see 76 = .ok (.iastore, 1) := by decide +kernel
theorem dX9_see_77 : decode cX9_see 77 = .ok (.aload_n 0, 1) := by decide +kernel
theorem dX9_see_78 : decode cX9_see 78 = .ok (.dup, 1) := by decide +kernel
theorem dX9_see_79 : decode cX9_see 79 = .ok (.getfield 159, 3) := by decide +kernel
theorem dX9_see_82 : decode cX9_see 82 = .ok (.iconst 1, 1) := by decide +kernel
theorem dX9_see_83 : decode cX9_see 83 = .ok (.iadd, 1) := by decide +kernel
theorem dX9_see_84 : decode cX9_see 84 = .ok (.putfield 159, 3) := by decide +kernel
theorem dX9_see_87 : decode cX9_see 87 = .ok (.aload_n 0, 1) := by decide +kernel
theorem dX9_see_88 : decode cX9_see 88 = .ok (.getfield 159, 3) := by decide +kernel
theorem dX9_see_91 : decode cX9_see 91 = .ok (.ireturn, 1) := by decide +kernel
theorem dX9_isSeen_0 : decode cX9_isSeen 0 = .ok (.iconst 1, 1) := by decide +kernel
theorem dX9_isSeen_1 : decode cX9_isSeen 1 = .ok (.istore_n 3, 1) := by decide +kernel
theorem dX9_isSeen_2 : decode cX9_isSeen 2 = .ok (.iconst 0, 1) := by decide +kernel
theorem dX9_isSeen_3 : decode cX9_isSeen 3 = .ok (.istore 4, 2) := by decide +kernel
theorem dX9_isSeen_5 : decode cX9_isSeen 5 = .ok (.iload 4, 2) := by decide +kernel
theorem dX9_isSeen_7 : decode cX9_isSeen 7 = .ok (.aload_n 0, 1) := by decide +kernel
theorem dX9_isSeen_8 : decode cX9_isSeen 8 = .ok (.getfield 159, 3) := by decide +kernel
theorem dX9_isSeen_11 : decode cX9_isSeen 11 = .ok (.if_icmp .ge 73, 3) := by decide +kernel
theorem dX9_isSeen_14 : decode cX9_isSeen 14 = .ok (.iload_n 3, 1) := by decide +kernel
theorem dX9_isSeen_15 : decode cX9_isSeen 15 = .ok (.ifCond .eq 69, 3) := by decide +kernel
theorem dX9_isSeen_18 : decode cX9_isSeen 18 = .ok (.aload_n 0, 1) := by decide +kernel
theorem dX9_isSeen_19 : decode cX9_isSeen 19 = .ok (.invokevirtual 424, 3) := by decide +kernel
theorem dX9_isSeen_22 : decode cX9_isSeen 22 = .ok (.iload_n 2, 1) := by decide +kernel
theorem dX9_isSeen_23 : decode cX9_isSeen 23 = .ok (.ifCond .lt 9, 3) := by decide +kernel
theorem dX9_isSeen_26 : decode cX9_isSeen 26 = .ok (.aload_n 0, 1) := by decide +kernel
theorem dX9_isSeen_27 : decode cX9_isSeen 27 = .ok (.iload_n 1, 1) := by decide +kernel
theorem dX9_isSeen_28 : decode cX9_isSeen 28 = .ok (.iload_n 2, 1) := by decide +kernel
theorem dX9_isSeen_29 : decode cX9_isSeen 29 = .ok (.invokevirtual 308, 3) := by decide +kernel
theorem dX9_isSeen_32 : decode cX9_isSeen 32 = .ok (.aload_n 0, 1) := by decide +kernel
theorem dX9_isSeen_33 : decode cX9_isSeen 33 = .ok (.aload_n 0, 1) := by decide +kernel
theorem dX9_isSeen_34 : decode cX9_isSeen 34 = .ok (.getfield 165, 3) := by decide +kernel
theorem dX9_isSeen_37 : decode cX9_isSeen 37 = .ok (.iload 4, 2) := by decide +kernel
theorem dX9_isSeen_39 : decode cX9_isSeen 39 = .ok (.iaload, 1) := by decide +kernel
theorem dX9_isSeen_40 : decode cX9_isSeen 40 = .ok (.invokevirtual 418, 3) := by decide +kernel
theorem dX9_isSeen_43 : decode cX9_isSeen 43 = .ok (.aload_n 0, 1) := by decide +kernel
theorem dX9_isSeen_44 : decode cX9_isSeen 44 = .ok (.aload_n 0, 1) := by decide +kernel
theorem dX9_isSeen_45 : decode cX9_isSeen 45 = .ok (.getfield 25, 3) := by decide +kernel
theorem dX9_isSeen_48 : decode cX9_isSeen 48 = .ok (.aload_n 0, 1) := by decide +kernel
theorem dX9_isSeen_49 : decode cX9_isSeen 49 = .ok (.getfield 162, 3) := by decide +kernel
theorem dX9_isSeen_52 : decode cX9_isSeen 52 = .ok (.iload 4, 2) := by decide +kernel
theorem dX9_isSeen_54 : decode cX9_isSeen 54 = .ok (.iaload, 1) := by decide +kernel
theorem dX9_isSeen_55 : decode cX9_isSeen 55 = .ok (.invokevirtual 312, 3) := by decide +kernel
theorem dX9_isSeen_58 : decode cX9_isSeen 58 = .ok (.aload_n 0, 1) := by decide +kernel
theorem dX9_isSeen_59 : decode cX9_isSeen 59 = .ok (.getfield 168, 3) := by decide +kernel
theorem dX9_isSeen_62 : decode cX9_isSeen 62 = .ok (.iload 4, 2) := by decide +kernel
theorem dX9_isSeen_64 : decode cX9_isSeen 64 = .ok (.baload, 1) := by decide +kernel
theorem dX9_isSeen_65 : decode cX9_isSeen 65 = .ok (.if_icmp .ne 7, 3) := by decide +kernel
theorem dX9_isSeen_68 : decode cX9_isSeen 68 = .ok (.iconst 1, 1) := by decide +kernel
theorem dX9_isSeen_69 : decode cX9_isSeen 69 = .ok (.goto 4, 3) := by decide +kernel
theorem dX9_isSeen_72 : decode cX9_isSeen 72 = .ok (.iconst 0, 1) := by decide +kernel
theorem dX9_isSeen_73 : decode cX9_isSeen 73 = .ok (.istore_n 3, 1) := by decide +kernel
theorem dX9_isSeen_74 : decode cX9_isSeen 74 = .ok (.aload_n 0, 1) := by decide +kernel
theorem dX9_isSeen_75 : decode cX9_isSeen 75 = .ok (.invokevirtual 427, 3) := by decide +kernel
theorem dX9_isSeen_78 : decode cX9_isSeen 78 = .ok (.iinc 4 1, 3) := by decide +kernel
theorem dX9_isSeen_81 : decode cX9_isSeen 81 = .ok (.goto (-76), 3) := by decide +kernel
theorem dX9_isSeen_84 : decode cX9_isSeen 84 = .ok (.iload_n 3, 1) := by decide +kernel
theorem dX9_isSeen_85 : decode cX9_isSeen 85 = .ok (.ireturn, 1) := by decide +kernel
theorem dX9_where_0 : decode cX9_where 0 = .ok (.aload_n 0, 1) := by decide +kernel
theorem dX9_where_1 : decode cX9_where 1 = .ok (.iload_n 1, 1) := by decide +kernel
theorem dX9_where_2 : decode cX9_where 2 = .ok (.invokevirtual 305, 3) := by decide +kernel
theorem dX9_where_5 : decode cX9_where 5 = .ok (.ifCond .eq 13, 3) := by decide +kernel
theorem dX9_where_8 : decode cX9_where 8 = .ok (.aload_n 0, 1) := by decide +kernel
theorem dX9_where_9 : decode cX9_where 9 = .ok (.iload_n 2, 1) := by decide +kernel
theorem dX9_where_10 : decode cX9_where 10 = .ok (.iconst 0, 1) := by decide +kernel
theorem dX9_where_11 : decode cX9_where 11 = .ok (.iconst 1, 1) := by decide +kernel
theorem dX9_where_12 : decode cX9_where 12 = .ok (.invokevirtual 293, 3) := by decide +kernel
theorem dX9_where_15 : decode cX9_where 15 = .ok (.ifCond .ne 5, 3) := by decide +kernel
theorem dX9_where_18 : decode cX9_where 18 = .ok (.iconst (-1), 1) := by decide +kernel
theorem dX9_where_19 : decode cX9_where 19 = .ok (.ireturn, 1) := by decide +kernel
theorem dX9_where_20 : decode cX9_where 20 = .ok (.iconst 0, 1) := by decide +kernel
theorem dX9_where_21 : decode cX9_where 21 = .ok (.istore_n 3, 1) := by decide +kernel
theorem dX9_where_22 : decode cX9_where 22 = .ok (.bipush (-5), 2) := by decide +kernel
theorem dX9_where_24 : decode cX9_where 24 = .ok (.istore 4, 2) := by decide +kernel
theorem dX9_where_26 : decode cX9_where 26 = .ok (.bipush 29, 2) := by decide +kernel
theorem dX9_where_28 : decode cX9_where 28 = .ok (.istore 5, 2) := by decide +kernel
theorem dX9_where_30 : decode cX9_where 30 = .ok (.iload 5, 2) := by decide +kernel
theorem dX9_where_32 : decode cX9_where 32 = .ok (.ifCond .lt 29, 3) := by decide +kernel
theorem dX9_where_35 : decode cX9_where 35 = .ok (.aload_n 0, 1) := by decide +kernel
theorem dX9_where_36 : decode cX9_where 36 = .ok (.iload_n 1, 1) := by decide +kernel
theorem dX9_where_37 : decode cX9_where 37 = .ok (.iload 5, 2) := by decide +kernel
theorem dX9_where_39 : decode cX9_where 39 = .ok (.invokevirtual 457, 3) := by decide +kernel
theorem dX9_where_42 : decode cX9_where 42 = .ok (.ifCond .ne 6, 3) := by decide +kernel
theorem dX9_where_45 : decode cX9_where 45 = .ok (.goto 10, 3) := by decide +kernel
theorem dX9_where_48 : decode cX9_where 48 = .ok (.iinc 3 1, 3) := by decide +kernel
theorem dX9_where_51 : decode cX9_where 51 = .ok (.iload 5, 2) := by decide +kernel
theorem dX9_where_53 : decode cX9_where 53 = .ok (.istore 4, 2) := by decide +kernel
theorem dX9_where_55 : decode cX9_where 55 = .ok (.iinc 5 (-1), 3) := by decide +kernel
theorem dX9_where_58 : decode cX9_where 58 = .ok (.goto (-28), 3) := by decide +kernel
theorem dX9_where_61 : decode cX9_where 61 = .ok (.iload_n 2, 1) := by decide +kernel
theorem dX9_where_62 : decode cX9_where 62 = .ok (.ifCond .ne 7, 3) := by decide +kernel
theorem dX9_where_65 : decode cX9_where 65 = .ok (.iload_n 3, 1) := by decide +kernel
theorem dX9_where_66 : decode cX9_where 66 = .ok (.goto 5, 3) := by decide +kernel
theorem dX9_where_69 : decode cX9_where 69 = .ok (.iload 4, 2) := by decide +kernel
theorem dX9_where_71 : decode cX9_where 71 = .ok (.ireturn, 1) := by decide +kernel
theorem dX9_can_0 : decode cX9_can 0 = .ok (.aload_n 0, 1) := by decide +kernel
theorem dX9_can_1 : decode cX9_can 1 = .ok (.iload_n 1, 1) := by decide +kernel
theorem dX9_can_2 : decode cX9_can 2 = .ok (.invokevirtual 305, 3) := by decide +kernel
theorem dX9_can_5 : decode cX9_can 5 = .ok (.ifCond .eq 13, 3) := by decide +kernel
theorem dX9_can_8 : decode cX9_can 8 = .ok (.aload_n 0, 1) := by decide +kernel
theorem dX9_can_9 : decode cX9_can 9 = .ok (.iload_n 2, 1) := by decide +kernel
theorem dX9_can_10 : decode cX9_can 10 = .ok (.iconst 0, 1) := by decide +kernel
theorem dX9_can_11 : decode cX9_can 11 = .ok (.iconst 1, 1) := by decide +kernel
theorem dX9_can_12 : decode cX9_can 12 = .ok (.invokevirtual 293, 3) := by decide +kernel
theorem dX9_can_15 : decode cX9_can 15 = .ok (.ifCond .ne 5, 3) := by decide +kernel
theorem dX9_can_18 : decode cX9_can 18 = .ok (.iconst (-1), 1) := by decide +kernel
theorem dX9_can_19 : decode cX9_can 19 = .ok (.ireturn, 1) := by decide +kernel
theorem dX9_can_20 : decode cX9_can 20 = .ok (.aload_n 0, 1) := by decide +kernel
theorem dX9_can_21 : decode cX9_can 21 = .ok (.getfield 44, 3) := by decide +kernel
theorem dX9_can_24 : decode cX9_can 24 = .ok (.iload_n 1, 1) := by decide +kernel
theorem dX9_can_25 : decode cX9_can 25 = .ok (.iaload, 1) := by decide +kernel
theorem dX9_can_26 : decode cX9_can 26 = .ok (.istore_n 3, 1) := by decide +kernel
theorem dX9_can_27 : decode cX9_can 27 = .ok (.iconst 0, 1) := by decide +kernel
theorem dX9_can_28 : decode cX9_can 28 = .ok (.istore 4, 2) := by decide +kernel
theorem dX9_can_30 : decode cX9_can 30 = .ok (.bipush (-5), 2) := by decide +kernel
theorem dX9_can_32 : decode cX9_can 32 = .ok (.istore 5, 2) := by decide +kernel
theorem dX9_can_34 : decode cX9_can 34 = .ok (.bipush 9, 2) := by decide +kernel
theorem dX9_can_36 : decode cX9_can 36 = .ok (.istore 6, 2) := by decide +kernel
theorem dX9_can_38 : decode cX9_can 38 = .ok (.iload 6, 2) := by decide +kernel
theorem dX9_can_40 : decode cX9_can 40 = .ok (.ifCond .lt 36, 3) := by decide +kernel
theorem dX9_can_43 : decode cX9_can 43 = .ok (.aload_n 0, 1) := by decide +kernel
theorem dX9_can_44 : decode cX9_can 44 = .ok (.getfield 44, 3) := by decide +kernel
theorem dX9_can_47 : decode cX9_can 47 = .ok (.iload_n 1, 1) := by decide +kernel
theorem dX9_can_48 : decode cX9_can 48 = .ok (.iload 6, 2) := by decide +kernel
theorem dX9_can_50 : decode cX9_can 50 = .ok (.iastore, 1) := by decide +kernel
theorem dX9_can_51 : decode cX9_can 51 = .ok (.aload_n 0, 1) := by decide +kernel
theorem dX9_can_52 : decode cX9_can 52 = .ok (.iload_n 1, 1) := by decide +kernel
theorem dX9_can_53 : decode cX9_can 53 = .ok (.iconst (-1), 1) := by decide +kernel
theorem dX9_can_54 : decode cX9_can 54 = .ok (.invokevirtual 457, 3) := by decide +kernel
theorem dX9_can_57 : decode cX9_can 57 = .ok (.ifCond .ne 6, 3) := by decide +kernel
theorem dX9_can_60 : decode cX9_can 60 = .ok (.goto 10, 3) := by decide +kernel
theorem dX9_can_63 : decode cX9_can 63 = .ok (.iinc 4 1, 3) := by decide +kernel
theorem dX9_can_66 : decode cX9_can 66 = .ok (.iload 6, 2) := by decide +kernel
theorem dX9_can_68 : decode cX9_can 68 = .ok (.istore 5, 2) := by decide +kernel
theorem dX9_can_70 : decode cX9_can 70 = .ok (.iinc 6 (-1), 3) := by decide +kernel
theorem dX9_can_73 : decode cX9_can 73 = .ok (.goto (-35), 3) := by decide +kernel
theorem dX9_can_76 : decode cX9_can 76 = .ok (.aload_n 0, 1) := by decide +kernel
theorem dX9_can_77 : decode cX9_can 77 = .ok (.getfield 44, 3) := by decide +kernel
theorem dX9_can_80 : decode cX9_can 80 = .ok (.iload_n 1, 1) := by decide +kernel
theorem dX9_can_81 : decode cX9_can 81 = .ok (.iload_n 3, 1) := by decide +kernel
theorem dX9_can_82 : decode cX9_can 82 = .ok (.iastore, 1) := by decide +kernel
theorem dX9_can_83 : decode cX9_can 83 = .ok (.iload_n 2, 1) := by decide +kernel
theorem dX9_can_84 : decode cX9_can 84 = .ok (.ifCond .ne 8, 3) := by decide +kernel
theorem dX9_can_87 : decode cX9_can 87 = .ok (.iload 4, 2) := by decide +kernel
theorem dX9_can_89 : decode cX9_can 89 = .ok (.goto 5, 3) := by decide +kernel
theorem dX9_can_92 : decode cX9_can 92 = .ok (.iload 5, 2) := by decide +kernel
theorem dX9_can_94 : decode cX9_can 94 = .ok (.ireturn, 1) := by decide +kernel
theorem dX9_divisor_0 : decode cX9_divisor 0 = .ok (.iload_n 1, 1) := by decide +kernel
theorem dX9_divisor_1 : decode cX9_divisor 1 = .ok (.istore_n 3, 1) := by decide +kernel
theorem dX9_divisor_2 : decode cX9_divisor 2 = .ok (.iload_n 2, 1) := by decide +kernel
theorem dX9_divisor_3 : decode cX9_divisor 3 = .ok (.istore 4, 2) := by decide +kernel
theorem dX9_divisor_5 : decode cX9_divisor 5 = .ok (.iload 4, 2) := by decide +kernel
theorem dX9_divisor_7 : decode cX9_divisor 7 = .ok (.ifCond .eq 19, 3) := by decide +kernel
theorem dX9_divisor_10 : decode cX9_divisor 10 = .ok (.iload_n 3, 1) := by decide +kernel
theorem dX9_divisor_11 : decode cX9_divisor 11 = .ok (.iload 4, 2) := by decide +kernel
theorem dX9_divisor_13 : decode cX9_divisor 13 = .ok (.irem, 1) := by decide +kernel
theorem dX9_divisor_14 : decode cX9_divisor 14 = .ok (.istore 5, 2) := by decide +kernel
theorem dX9_divisor_16 : decode cX9_divisor 16 = .ok (.iload 4, 2) := by decide +kernel
theorem dX9_divisor_18 : decode cX9_divisor 18 = .ok (.istore_n 3, 1) := by decide +kernel
theorem dX9_divisor_19 : decode cX9_divisor 19 = .ok (.iload 5, 2) := by decide +kernel
theorem dX9_divisor_21 : decode cX9_divisor 21 = .ok (.istore 4, 2) := by decide +kernel
theorem dX9_divisor_23 : decode cX9_divisor 23 = .ok (.goto (-18), 3) := by decide +kernel
theorem dX9_divisor_26 : decode cX9_divisor 26 = .ok (.iload_n 3, 1) := by decide +kernel
theorem dX9_divisor_27 : decode cX9_divisor 27 = .ok (.ireturn, 1) := by decide +kernel
theorem dX9_lowest_0 : decode cX9_lowest 0 = .ok (.aload_n 0, 1) := by decide +kernel
theorem dX9_lowest_1 : decode cX9_lowest 1 = .ok (.iload_n 1, 1) := by decide +kernel
theorem dX9_lowest_2 : decode cX9_lowest 2 = .ok (.iload_n 2, 1) := by decide +kernel
theorem dX9_lowest_3 : decode cX9_lowest 3 = .ok (.invokevirtual 460, 3) := by decide +kernel
theorem dX9_lowest_6 : decode cX9_lowest 6 = .ok (.istore 4, 2) := by decide +kernel
theorem dX9_lowest_8 : decode cX9_lowest 8 = .ok (.iload_n 3, 1) := by decide +kernel
theorem dX9_lowest_9 : decode cX9_lowest 9 = .ok (.ifCond .ne 11, 3) := by decide +kernel
theorem dX9_lowest_12 : decode cX9_lowest 12 = .ok (.iload_n 1, 1) := by decide +kernel
theorem dX9_lowest_13 : decode cX9_lowest 13 = .ok (.iload 4, 2) := by decide +kernel
theorem dX9_lowest_15 : decode cX9_lowest 15 = .ok (.idiv, 1) := by decide +kernel
theorem dX9_lowest_16 : decode cX9_lowest 16 = .ok (.i2l, 1) := by decide +kernel
theorem dX9_lowest_17 : decode cX9_lowest 17 = .ok (.goto 8, 3) := by decide +kernel
theorem dX9_lowest_20 : decode cX9_lowest 20 = .ok (.iload_n 2, 1) := by decide +kernel
theorem dX9_lowest_21 : decode cX9_lowest 21 = .ok (.iload 4, 2) := by decide +kernel
theorem dX9_lowest_23 : decode cX9_lowest 23 = .ok (.idiv, 1) := by decide +kernel
theorem dX9_lowest_24 : decode cX9_lowest 24 = .ok (.i2l, 1) := by decide +kernel
theorem dX9_lowest_25 : decode cX9_lowest 25 = .ok (.lreturn, 1) := by decide +kernel
theorem dX9_odds_0 : decode cX9_odds 0 = .ok (.aload_n 0, 1) := by decide +kernel
theorem dX9_odds_1 : decode cX9_odds 1 = .ok (.iload_n 1, 1) := by decide +kernel
theorem dX9_odds_2 : decode cX9_odds 2 = .ok (.invokevirtual 421, 3) := by decide +kernel
theorem dX9_odds_5 : decode cX9_odds 5 = .ok (.ifCond .eq 20, 3) := by decide +kernel
theorem dX9_odds_8 : decode cX9_odds 8 = .ok (.aload_n 0, 1) := by decide +kernel
theorem dX9_odds_9 : decode cX9_odds 9 = .ok (.iload_n 2, 1) := by decide +kernel
theorem dX9_odds_10 : decode cX9_odds 10 = .ok (.iconst 0, 1) := by decide +kernel
theorem dX9_odds_11 : decode cX9_odds 11 = .ok (.iconst 1, 1) := by decide +kernel
theorem dX9_odds_12 : decode cX9_odds 12 = .ok (.invokevirtual 293, 3) := by decide +kernel
theorem dX9_odds_15 : decode cX9_odds 15 = .ok (.ifCond .eq 10, 3) := by decide +kernel
theorem dX9_odds_18 : decode cX9_odds 18 = .ok (.aload_n 0, 1) := by decide +kernel
theorem dX9_odds_19 : decode cX9_odds 19 = .ok (.getfield 13, 3) := by decide +kernel
theorem dX9_odds_22 : decode cX9_odds 22 = .ok (.ifCond .ne 7, 3) := by decide +kernel
theorem dX9_odds_25 : decode cX9_odds 25 = .ok (.ldc2_w 463, 3) := by decide +kernel
theorem dX9_odds_28 : decode cX9_odds 28 = .ok (.lreturn, 1) := by decide +kernel
theorem dX9_odds_29 : decode cX9_odds 29 = .ok (.iconst 0, 1) := by decide +kernel
theorem dX9_odds_30 : decode cX9_odds 30 = .ok (.istore_n 3, 1) := by decide +kernel
theorem dX9_odds_31 : decode cX9_odds 31 = .ok (.iconst 0, 1) := by decide +kernel
theorem dX9_odds_32 : decode cX9_odds 32 = .ok (.istore 4, 2) := by decide +kernel
theorem dX9_odds_34 : decode cX9_odds 34 = .ok (.iload 4, 2) := by decide +kernel
theorem dX9_odds_36 : decode cX9_odds 36 = .ok (.aload_n 0, 1) := by decide +kernel
theorem dX9_odds_37 : decode cX9_odds 37 = .ok (.getfield 13, 3) := by decide +kernel
theorem dX9_odds_40 : decode cX9_odds 40 = .ok (.if_icmp .ge 56, 3) := by decide +kernel
theorem dX9_odds_43 : decode cX9_odds 43 = .ok (.aload_n 0, 1) := by decide +kernel
theorem dX9_odds_44 : decode cX9_odds 44 = .ok (.invokevirtual 424, 3) := by decide +kernel
theorem dX9_odds_47 : decode cX9_odds 47 = .ok (.aload_n 0, 1) := by decide +kernel
theorem dX9_odds_48 : decode cX9_odds 48 = .ok (.aload_n 0, 1) := by decide +kernel
theorem dX9_odds_49 : decode cX9_odds 49 = .ok (.aload_n 0, 1) := by decide +kernel
theorem dX9_odds_50 : decode cX9_odds 50 = .ok (.getfield 22, 3) := by decide +kernel
theorem dX9_odds_53 : decode cX9_odds 53 = .ok (.iload 4, 2) := by decide +kernel
theorem dX9_odds_55 : decode cX9_odds 55 = .ok (.iconst 1, 1) := by decide +kernel
theorem dX9_odds_56 : decode cX9_odds 56 = .ok (.invokevirtual 301, 3) := by decide +kernel
theorem dX9_odds_59 : decode cX9_odds 59 = .ok (.putfield 22, 3) := by decide +kernel
theorem dX9_odds_62 : decode cX9_odds 62 = .ok (.aload_n 0, 1) := by decide +kernel
theorem dX9_odds_63 : decode cX9_odds 63 = .ok (.iload_n 1, 1) := by decide +kernel
theorem dX9_odds_64 : decode cX9_odds 64 = .ok (.invokevirtual 418, 3) := by decide +kernel
theorem dX9_odds_67 : decode cX9_odds 67 = .ok (.iload_n 3, 1) := by decide +kernel
theorem dX9_odds_68 : decode cX9_odds 68 = .ok (.aload_n 0, 1) := by decide +kernel
theorem dX9_odds_69 : decode cX9_odds 69 = .ok (.getfield 25, 3) := by decide +kernel
theorem dX9_odds_72 : decode cX9_odds 72 = .ok (.aload_n 0, 1) := by decide +kernel
theorem dX9_odds_73 : decode cX9_odds 73 = .ok (.invokevirtual 430, 3) := by decide +kernel
theorem dX9_odds_76 : decode cX9_odds 76 = .ok (.if_icmp .ne 7, 3) := by decide +kernel
theorem dX9_odds_79 : decode cX9_odds 79 = .ok (.iconst 1, 1) := by decide +kernel
theorem dX9_odds_80 : decode cX9_odds 80 = .ok (.goto 4, 3) := by decide +kernel
theorem dX9_odds_83 : decode cX9_odds 83 = .ok (.iconst 0, 1) := by decide +kernel
theorem dX9_odds_84 : decode cX9_odds 84 = .ok (.iadd, 1) := by decide +kernel
theorem dX9_odds_85 : decode cX9_odds 85 = .ok (.istore_n 3, 1) := by decide +kernel
theorem dX9_odds_86 : decode cX9_odds 86 = .ok (.aload_n 0, 1) := by decide +kernel
theorem dX9_odds_87 : decode cX9_odds 87 = .ok (.invokevirtual 427, 3) := by decide +kernel
theorem dX9_odds_90 : decode cX9_odds 90 = .ok (.iinc 4 1, 3) := by decide +kernel
theorem dX9_odds_93 : decode cX9_odds 93 = .ok (.goto (-59), 3) := by decide +kernel
theorem dX9_odds_96 : decode cX9_odds 96 = .ok (.aload_n 0, 1) := by decide +kernel
theorem dX9_odds_97 : decode cX9_odds 97 = .ok (.iload_n 3, 1) := by decide +kernel
theorem dX9_odds_98 : decode cX9_odds 98 = .ok (.aload_n 0, 1) := by decide +kernel
theorem dX9_odds_99 : decode cX9_odds 99 = .ok (.getfield 13, 3) := by decide +kernel
theorem dX9_odds_102 : decode cX9_odds 102 = .ok (.iload_n 2, 1) := by decide +kernel
theorem dX9_odds_103 : decode cX9_odds 103 = .ok (.invokevirtual 465, 3) := by decide +kernel
theorem dX9_odds_106 : decode cX9_odds 106 = .ok (.lreturn, 1) := by decide +kernel
theorem dX9_mean_0 : decode cX9_mean 0 = .ok (.aload_n 0, 1) := by decide +kernel
theorem dX9_mean_1 : decode cX9_mean 1 = .ok (.iload_n 1, 1) := by decide +kernel
theorem dX9_mean_2 : decode cX9_mean 2 = .ok (.iconst 1, 1) := by decide +kernel
theorem dX9_mean_3 : decode cX9_mean 3 = .ok (.bipush 60, 2) := by decide +kernel
theorem dX9_mean_5 : decode cX9_mean 5 = .ok (.invokevirtual 293, 3) := by decide +kernel
theorem dX9_mean_8 : decode cX9_mean 8 = .ok (.ifCond .eq 13, 3) := by decide +kernel
theorem dX9_mean_11 : decode cX9_mean 11 = .ok (.aload_n 0, 1) := by decide +kernel
theorem dX9_mean_12 : decode cX9_mean 12 = .ok (.iload_n 2, 1) := by decide +kernel
theorem dX9_mean_13 : decode cX9_mean 13 = .ok (.iconst 0, 1) := by decide +kernel
theorem dX9_mean_14 : decode cX9_mean 14 = .ok (.iconst 1, 1) := by decide +kernel
theorem dX9_mean_15 : decode cX9_mean 15 = .ok (.invokevirtual 293, 3) := by decide +kernel
theorem dX9_mean_18 : decode cX9_mean 18 = .ok (.ifCond .ne 7, 3) := by decide +kernel
theorem dX9_mean_21 : decode cX9_mean 21 = .ok (.ldc2_w 463, 3) := by decide +kernel
theorem dX9_mean_24 : decode cX9_mean 24 = .ok (.lreturn, 1) := by decide +kernel
theorem dX9_mean_25 : decode cX9_mean 25 = .ok (.aload_n 0, 1) := by decide +kernel
theorem dX9_mean_26 : decode cX9_mean 26 = .ok (.invokevirtual 424, 3) := by decide +kernel
theorem dX9_mean_29 : decode cX9_mean 29 = .ok (.iconst 0, 1) := by decide +kernel
theorem dX9_mean_30 : decode cX9_mean 30 = .ok (.istore_n 3, 1) := by decide +kernel
theorem dX9_mean_31 : decode cX9_mean 31 = .ok (.iconst 0, 1) := by decide +kernel
theorem dX9_mean_32 : decode cX9_mean 32 = .ok (.istore 4, 2) := by decide +kernel
theorem dX9_mean_34 : decode cX9_mean 34 = .ok (.iload 4, 2) := by decide +kernel
theorem dX9_mean_36 : decode cX9_mean 36 = .ok (.iload_n 1, 1) := by decide +kernel
theorem dX9_mean_37 : decode cX9_mean 37 = .ok (.if_icmp .ge 24, 3) := by decide +kernel
theorem dX9_mean_40 : decode cX9_mean 40 = .ok (.aload_n 0, 1) := by decide +kernel
theorem dX9_mean_41 : decode cX9_mean 41 = .ok (.invokevirtual 415, 3) := by decide +kernel
theorem dX9_mean_44 : decode cX9_mean 44 = .ok (.iload_n 3, 1) := by decide +kernel
theorem dX9_mean_45 : decode cX9_mean 45 = .ok (.aload_n 0, 1) := by decide +kernel
theorem dX9_mean_46 : decode cX9_mean 46 = .ok (.aload_n 0, 1) := by decide +kernel
theorem dX9_mean_47 : decode cX9_mean 47 = .ok (.getfield 25, 3) := by decide +kernel
theorem dX9_mean_50 : decode cX9_mean 50 = .ok (.invokevirtual 375, 3) := by decide +kernel
theorem dX9_mean_53 : decode cX9_mean 53 = .ok (.iadd, 1) := by decide +kernel
theorem dX9_mean_54 : decode cX9_mean 54 = .ok (.istore_n 3, 1) := by decide +kernel
theorem dX9_mean_55 : decode cX9_mean 55 = .ok (.iinc 4 1, 3) := by decide +kernel
theorem dX9_mean_58 : decode cX9_mean 58 = .ok (.goto (-24), 3) := by decide +kernel
theorem dX9_mean_61 : decode cX9_mean 61 = .ok (.aload_n 0, 1) := by decide +kernel
theorem dX9_mean_62 : decode cX9_mean 62 = .ok (.invokevirtual 427, 3) := by decide +kernel
theorem dX9_mean_65 : decode cX9_mean 65 = .ok (.aload_n 0, 1) := by decide +kernel
theorem dX9_mean_66 : decode cX9_mean 66 = .ok (.iload_n 3, 1) := by decide +kernel
theorem dX9_mean_67 : decode cX9_mean 67 = .ok (.iload_n 1, 1) := by decide +kernel
theorem dX9_mean_68 : decode cX9_mean 68 = .ok (.iload_n 2, 1) := by decide +kernel
theorem dX9_mean_69 : decode cX9_mean 69 = .ok (.invokevirtual 465, 3) := by decide +kernel
theorem dX9_mean_72 : decode cX9_mean 72 = .ok (.lreturn, 1) := by decide +kernel
theorem dX9_evening_0 : decode cX9_evening 0 = .ok (.iload_n 1, 1) := by decide +kernel
theorem dX9_evening_1 : decode cX9_evening 1 = .ok (.iconst (-1), 1) := by decide +kernel
theorem dX9_evening_2 : decode cX9_evening 2 = .ok (.if_icmp .ne 10, 3) := by decide +kernel
theorem dX9_evening_5 : decode cX9_evening 5 = .ok (.aload_n 0, 1) := by decide +kernel
theorem dX9_evening_6 : decode cX9_evening 6 = .ok (.iconst 0, 1) := by decide +kernel
theorem dX9_evening_7 : decode cX9_evening 7 = .ok (.putfield 171, 3) := by decide +kernel
theorem dX9_evening_10 : decode cX9_evening 10 = .ok (.iconst 0, 1) := by decide +kernel
theorem dX9_evening_11 : decode cX9_evening 11 = .ok (.ireturn, 1) := by decide +kernel
theorem dX9_evening_12 : decode cX9_evening 12 = .ok (.aload_n 0, 1) := by decide +kernel
theorem dX9_evening_13 : decode cX9_evening 13 = .ok (.iload_n 1, 1) := by decide +kernel
theorem dX9_evening_14 : decode cX9_evening 14 = .ok (.iconst 0, 1) := by decide +kernel
theorem dX9_evening_15 : decode cX9_evening 15 = .ok (.iconst 3, 1) := by decide +kernel
theorem dX9_evening_16 : decode cX9_evening 16 = .ok (.invokevirtual 293, 3) := by decide +kernel
theorem dX9_evening_19 : decode cX9_evening 19 = .ok (.ifCond .eq 34, 3) := by decide +kernel
theorem dX9_evening_22 : decode cX9_evening 22 = .ok (.aload_n 0, 1) := by decide +kernel
theorem dX9_evening_23 : decode cX9_evening 23 = .ok (.iload_n 1, 1) := by decide +kernel
theorem dX9_evening_24 : decode cX9_evening 24 = .ok (.iconst 1, 1) := by decide +kernel
theorem dX9_evening_25 : decode cX9_evening 25 = .ok (.iconst 2, 1) := by decide +kernel
theorem dX9_evening_26 : decode cX9_evening 26 = .ok (.invokevirtual 293, 3) := by decide +kernel
theorem dX9_evening_29 : decode cX9_evening 29 = .ok (.ifCond .eq 11, 3) := by decide +kernel
theorem dX9_evening_32 : decode cX9_evening 32 = .ok (.aload_n 0, 1) := by decide +kernel
theorem dX9_evening_33 : decode cX9_evening 33 = .ok (.iload_n 2, 1) := by decide +kernel
theorem dX9_evening_34 : decode cX9_evening 34 = .ok (.invokevirtual 316, 3) := by decide +kernel
theorem dX9_evening_37 : decode cX9_evening 37 = .ok (.ifCond .eq 16, 3) := by decide +kernel
theorem dX9_evening_40 : decode cX9_evening 40 = .ok (.iload_n 1, 1) := by decide +kernel
theorem dX9_evening_41 : decode cX9_evening 41 = .ok (.iconst 3, 1) := by decide +kernel
theorem dX9_evening_42 : decode cX9_evening 42 = .ok (.if_icmp .ne 13, 3) := by decide +kernel
theorem dX9_evening_45 : decode cX9_evening 45 = .ok (.aload_n 0, 1) := by decide +kernel
theorem dX9_evening_46 : decode cX9_evening 46 = .ok (.iload_n 2, 1) := by decide +kernel
theorem dX9_evening_47 : decode cX9_evening 47 = .ok (.invokevirtual 305, 3) := by decide +kernel
theorem dX9_evening_50 : decode cX9_evening 50 = .ok (.ifCond .ne 5, 3) := by decide +kernel
theorem dX9_evening_53 : decode cX9_evening 53 = .ok (.iconst (-1), 1) := by decide +kernel
theorem dX9_evening_54 : decode cX9_evening 54 = .ok (.ireturn, 1) := by decide +kernel
theorem dX9_evening_55 : decode cX9_evening 55 = .ok (.aload_n 0, 1) := by decide +kernel
theorem dX9_evening_56 : decode cX9_evening 56 = .ok (.getfield 171, 3) := by decide +kernel
theorem dX9_evening_59 : decode cX9_evening 59 = .ok (.bipush 10, 2) := by decide +kernel
theorem dX9_evening_61 : decode cX9_evening 61 = .ok (.if_icmp .ne 6, 3) := by decide +kernel
theorem dX9_evening_64 : decode cX9_evening 64 = .ok (.bipush (-4), 2) := by decide +kernel
theorem dX9_evening_66 : decode cX9_evening 66 = .ok (.ireturn, 1) := by decide +kernel
theorem dX9_evening_67 : decode cX9_evening 67 = .ok (.aload_n 0, 1) := by decide +kernel
theorem dX9_evening_68 : decode cX9_evening 68 = .ok (.getfield 177, 3) := by decide +kernel
theorem dX9_evening_71 : decode cX9_evening 71 = .ok (.aload_n 0, 1) := by decide +kernel
theorem dX9_evening_72 : decode cX9_evening 72 = .ok (.getfield 171, 3) := by decide +kernel
theorem dX9_evening_75 : decode cX9_evening 75 = .ok (.iload_n 1, 1) := by decide +kernel
theorem dX9_evening_76 : decode cX9_evening 76 = .ok (.iastore, 1) := by decide +kernel
theorem dX9_evening_77 : decode cX9_evening 77 = .ok (.aload_n 0, 1) := by decide +kernel
theorem dX9_evening_78 : decode cX9_evening 78 = .ok (.getfield 180, 3) := by decide +kernel
theorem dX9_evening_81 : decode cX9_evening 81 = .ok (.aload_n 0, 1) := by decide +kernel
theorem dX9_evening_82 : decode cX9_evening 82 = .ok (.getfield 171, 3) := by decide +kernel
theorem dX9_evening_85 : decode cX9_evening 85 = .ok (.iload_n 1, 1) := by decide +kernel
theorem dX9_evening_86 : decode cX9_evening 86 = .ok (.ifCond .le 7, 3) := by decide +kernel
theorem dX9_evening_89 : decode cX9_evening 89 = .ok (.iload_n 2, 1) := by decide +kernel
theorem dX9_evening_90 : decode cX9_evening 90 = .ok (.goto 4, 3) := by decide +kernel
theorem dX9_evening_93 : decode cX9_evening 93 = .ok (.iconst 0, 1) := by decide +kernel
theorem dX9_evening_94 : decode cX9_evening 94 = .ok (.iastore, 1) := by decide +kernel
theorem dX9_evening_95 : decode cX9_evening 95 = .ok (.aload_n 0, 1) := by decide +kernel
theorem dX9_evening_96 : decode cX9_evening 96 = .ok (.dup, 1) := by decide +kernel
theorem dX9_evening_97 : decode cX9_evening 97 = .ok (.getfield 171, 3) := by decide +kernel
theorem dX9_evening_100 : decode cX9_evening 100 = .ok (.iconst 1, 1) := by decide +kernel
theorem dX9_evening_101 : decode cX9_evening 101 = .ok (.iadd, 1) := by decide +kernel
theorem dX9_evening_102 : decode cX9_evening 102 = .ok (.putfield 171, 3) := by decide +kernel
theorem dX9_evening_105 : decode cX9_evening 105 = .ok (.aload_n 0, 1) := by decide +kernel
theorem dX9_evening_106 : decode cX9_evening 106 = .ok (.getfield 171, 3) := by decide +kernel
theorem dX9_evening_109 : decode cX9_evening 109 = .ok (.ireturn, 1) := by decide +kernel
theorem dX9_gone_0 : decode cX9_gone 0 = .ok (.aload_n 0, 1) := by decide +kernel
theorem dX9_gone_1 : decode cX9_gone 1 = .ok (.iload_n 1, 1) := by decide +kernel
theorem dX9_gone_2 : decode cX9_gone 2 = .ok (.iconst 0, 1) := by decide +kernel
theorem dX9_gone_3 : decode cX9_gone 3 = .ok (.iconst 1, 1) := by decide +kernel
theorem dX9_gone_4 : decode cX9_gone 4 = .ok (.invokevirtual 293, 3) := by decide +kernel
theorem dX9_gone_7 : decode cX9_gone 7 = .ok (.ifCond .ne 5, 3) := by decide +kernel
theorem dX9_gone_10 : decode cX9_gone 10 = .ok (.iconst (-1), 1) := by decide +kernel
theorem dX9_gone_11 : decode cX9_gone 11 = .ok (.ireturn, 1) := by decide +kernel
theorem dX9_gone_12 : decode cX9_gone 12 = .ok (.aload_n 0, 1) := by decide +kernel
theorem dX9_gone_13 : decode cX9_gone 13 = .ok (.invokevirtual 424, 3) := by decide +kernel
theorem dX9_gone_16 : decode cX9_gone 16 = .ok (.iconst 0, 1) := by decide +kernel
theorem dX9_gone_17 : decode cX9_gone 17 = .ok (.istore_n 2, 1) := by decide +kernel
theorem dX9_gone_18 : decode cX9_gone 18 = .ok (.iload_n 2, 1) := by decide +kernel
theorem dX9_gone_19 : decode cX9_gone 19 = .ok (.aload_n 0, 1) := by decide +kernel
theorem dX9_gone_20 : decode cX9_gone 20 = .ok (.getfield 171, 3) := by decide +kernel
theorem dX9_gone_23 : decode cX9_gone 23 = .ok (.if_icmp .ge 99, 3) := by decide +kernel
theorem dX9_gone_26 : decode cX9_gone 26 = .ok (.aload_n 0, 1) := by decide +kernel
theorem dX9_gone_27 : decode cX9_gone 27 = .ok (.getfield 177, 3) := by decide +kernel
theorem dX9_gone_30 : decode cX9_gone 30 = .ok (.iload_n 2, 1) := by decide +kernel
theorem dX9_gone_31 : decode cX9_gone 31 = .ok (.iaload, 1) := by decide +kernel
theorem dX9_gone_32 : decode cX9_gone 32 = .ok (.ifCond .ne 7, 3) := by decide +kernel
theorem dX9_gone_35 : decode cX9_gone 35 = .ok (.aload_n 0, 1) := by decide +kernel
theorem dX9_gone_36 : decode cX9_gone 36 = .ok (.invokevirtual 415, 3) := by decide +kernel
theorem dX9_gone_39 : decode cX9_gone 39 = .ok (.aload_n 0, 1) := by decide +kernel
theorem dX9_gone_40 : decode cX9_gone 40 = .ok (.aload_n 0, 1) := by decide +kernel
theorem dX9_gone_41 : decode cX9_gone 41 = .ok (.getfield 177, 3) := by decide +kernel
theorem dX9_gone_44 : decode cX9_gone 44 = .ok (.iload_n 2, 1) := by decide +kernel
theorem dX9_gone_45 : decode cX9_gone 45 = .ok (.iaload, 1) := by decide +kernel
theorem dX9_gone_46 : decode cX9_gone 46 = .ok (.iconst 1, 1) := by decide +kernel
theorem dX9_gone_47 : decode cX9_gone 47 = .ok (.iconst 2, 1) := by decide +kernel
theorem dX9_gone_48 : decode cX9_gone 48 = .ok (.invokevirtual 293, 3) := by decide +kernel
theorem dX9_gone_51 : decode cX9_gone 51 = .ok (.ifCond .eq 36, 3) := by decide +kernel
theorem dX9_gone_54 : decode cX9_gone 54 = .ok (.aload_n 0, 1) := by decide +kernel
theorem dX9_gone_55 : decode cX9_gone 55 = .ok (.aload_n 0, 1) := by decide +kernel
theorem dX9_gone_56 : decode cX9_gone 56 = .ok (.aload_n 0, 1) := by decide +kernel
theorem dX9_gone_57 : decode cX9_gone 57 = .ok (.getfield 19, 3) := by decide +kernel
theorem dX9_gone_60 : decode cX9_gone 60 = .ok (.aload_n 0, 1) := by decide +kernel
theorem dX9_gone_61 : decode cX9_gone 61 = .ok (.getfield 180, 3) := by decide +kernel
theorem dX9_gone_64 : decode cX9_gone 64 = .ok (.iload_n 2, 1) := by decide +kernel
theorem dX9_gone_65 : decode cX9_gone 65 = .ok (.iaload, 1) := by decide +kernel
theorem dX9_gone_66 : decode cX9_gone 66 = .ok (.aload_n 0, 1) := by decide +kernel
theorem dX9_gone_67 : decode cX9_gone 67 = .ok (.getfield 177, 3) := by decide +kernel
theorem dX9_gone_70 : decode cX9_gone 70 = .ok (.iload_n 2, 1) := by decide +kernel
theorem dX9_gone_71 : decode cX9_gone 71 = .ok (.iaload, 1) := by decide +kernel
theorem dX9_gone_72 : decode cX9_gone 72 = .ok (.iconst 2, 1) := by decide +kernel
theorem dX9_gone_73 : decode cX9_gone 73 = .ok (.if_icmp .ne 7, 3) := by decide +kernel
theorem dX9_gone_76 : decode cX9_gone 76 = .ok (.iconst 1, 1) := by decide +kernel
theorem dX9_gone_77 : decode cX9_gone 77 = .ok (.goto 4, 3) := by decide +kernel
theorem dX9_gone_80 : decode cX9_gone 80 = .ok (.iconst 0, 1) := by decide +kernel
theorem dX9_gone_81 : decode cX9_gone 81 = .ok (.invokevirtual 301, 3) := by decide +kernel
theorem dX9_gone_84 : decode cX9_gone 84 = .ok (.putfield 19, 3) := by decide +kernel
theorem dX9_gone_87 : decode cX9_gone 87 = .ok (.aload_n 0, 1) := by decide +kernel
theorem dX9_gone_88 : decode cX9_gone 88 = .ok (.getfield 177, 3) := by decide +kernel
theorem dX9_gone_91 : decode cX9_gone 91 = .ok (.iload_n 2, 1) := by decide +kernel
theorem dX9_gone_92 : decode cX9_gone 92 = .ok (.iaload, 1) := by decide +kernel
theorem dX9_gone_93 : decode cX9_gone 93 = .ok (.iconst 3, 1) := by decide +kernel
theorem dX9_gone_94 : decode cX9_gone 94 = .ok (.if_icmp .ne 22, 3) := by decide +kernel
theorem dX9_gone_97 : decode cX9_gone 97 = .ok (.aload_n 0, 1) := by decide +kernel
theorem dX9_gone_98 : decode cX9_gone 98 = .ok (.aload_n 0, 1) := by decide +kernel
theorem dX9_gone_99 : decode cX9_gone 99 = .ok (.aload_n 0, 1) := by decide +kernel
theorem dX9_gone_100 : decode cX9_gone 100 = .ok (.getfield 22, 3) := by decide +kernel
theorem dX9_gone_103 : decode cX9_gone 103 = .ok (.aload_n 0, 1) := by decide +kernel
theorem dX9_gone_104 : decode cX9_gone 104 = .ok (.getfield 180, 3) := by decide +kernel
theorem dX9_gone_107 : decode cX9_gone 107 = .ok (.iload_n 2, 1) := by decide +kernel
theorem dX9_gone_108 : decode cX9_gone 108 = .ok (.iaload, 1) := by decide +kernel
theorem dX9_gone_109 : decode cX9_gone 109 = .ok (.iconst 1, 1) := by decide +kernel
theorem dX9_gone_110 : decode cX9_gone 110 = .ok (.invokevirtual 301, 3) := by decide +kernel
theorem dX9_gone_113 : decode cX9_gone 113 = .ok (.putfield 22, 3) := by decide +kernel
theorem dX9_gone_116 : decode cX9_gone 116 = .ok (.iinc 2 1, 3) := by decide +kernel
theorem dX9_gone_119 : decode cX9_gone 119 = .ok (.goto (-101), 3) := by decide +kernel
theorem dX9_gone_122 : decode cX9_gone 122 = .ok (.iload_n 1, 1) := by decide +kernel
theorem dX9_gone_123 : decode cX9_gone 123 = .ok (.ifCond .ne 10, 3) := by decide +kernel
theorem dX9_gone_126 : decode cX9_gone 126 = .ok (.aload_n 0, 1) := by decide +kernel
theorem dX9_gone_127 : decode cX9_gone 127 = .ok (.getfield 25, 3) := by decide +kernel
theorem dX9_gone_130 : decode cX9_gone 130 = .ok (.goto 7, 3) := by decide +kernel
theorem dX9_gone_133 : decode cX9_gone 133 = .ok (.aload_n 0, 1) := by decide +kernel
theorem dX9_gone_134 : decode cX9_gone 134 = .ok (.getfield 19, 3) := by decide +kernel
theorem dX9_gone_137 : decode cX9_gone 137 = .ok (.istore_n 2, 1) := by decide +kernel
theorem dX9_gone_138 : decode cX9_gone 138 = .ok (.aload_n 0, 1) := by decide +kernel
theorem dX9_gone_139 : decode cX9_gone 139 = .ok (.invokevirtual 427, 3) := by decide +kernel
theorem dX9_gone_142 : decode cX9_gone 142 = .ok (.iload_n 2, 1) := by decide +kernel
theorem dX9_gone_143 : decode cX9_gone 143 = .ok (.ireturn, 1) := by decide +kernel
theorem dX9_book_0 : decode cX9_book 0 = .ok (.iload_n 1, 1) := by decide +kernel
theorem dX9_book_1 : decode cX9_book 1 = .ok (.iconst (-1), 1) := by decide +kernel
theorem dX9_book_2 : decode cX9_book 2 = .ok (.if_icmp .ne 10, 3) := by decide +kernel
theorem dX9_book_5 : decode cX9_book 5 = .ok (.aload_n 0, 1) := by decide +kernel
theorem dX9_book_6 : decode cX9_book 6 = .ok (.iconst 0, 1) := by decide +kernel
theorem dX9_book_7 : decode cX9_book 7 = .ok (.putfield 174, 3) := by decide +kernel
theorem dX9_book_10 : decode cX9_book 10 = .ok (.iconst 0, 1) := by decide +kernel
theorem dX9_book_11 : decode cX9_book 11 = .ok (.ireturn, 1) := by decide +kernel
theorem dX9_book_12 : decode cX9_book 12 = .ok (.aload_n 0, 1) := by decide +kernel
theorem dX9_book_13 : decode cX9_book 13 = .ok (.iload_n 1, 1) := by decide +kernel
theorem dX9_book_14 : decode cX9_book 14 = .ok (.invokevirtual 305, 3) := by decide +kernel
theorem dX9_book_17 : decode cX9_book 17 = .ok (.ifCond .ne 5, 3) := by decide +kernel
theorem dX9_book_20 : decode cX9_book 20 = .ok (.iconst (-1), 1) := by decide +kernel
theorem dX9_book_21 : decode cX9_book 21 = .ok (.ireturn, 1) := by decide +kernel
theorem dX9_book_22 : decode cX9_book 22 = .ok (.aload_n 0, 1) := by decide +kernel
theorem dX9_book_23 : decode cX9_book 23 = .ok (.iload_n 2, 1) := by decide +kernel
theorem dX9_book_24 : decode cX9_book 24 = .ok (.invokevirtual 297, 3) := by decide +kernel
theorem dX9_book_27 : decode cX9_book 27 = .ok (.ifCond .ne 6, 3) := by decide +kernel
theorem dX9_book_30 : decode cX9_book 30 = .ok (.bipush (-2), 2) := by decide +kernel
theorem dX9_book_32 : decode cX9_book 32 = .ok (.ireturn, 1) := by decide +kernel
theorem dX9_book_33 : decode cX9_book 33 = .ok (.aload_n 0, 1) := by decide +kernel
theorem dX9_book_34 : decode cX9_book 34 = .ok (.getfield 174, 3) := by decide +kernel
theorem dX9_book_37 : decode cX9_book 37 = .ok (.bipush 8, 2) := by decide +kernel
theorem dX9_book_39 : decode cX9_book 39 = .ok (.if_icmp .ne 6, 3) := by decide +kernel
theorem dX9_book_42 : decode cX9_book 42 = .ok (.bipush (-4), 2) := by decide +kernel
theorem dX9_book_44 : decode cX9_book 44 = .ok (.ireturn, 1) := by decide +kernel
theorem dX9_book_45 : decode cX9_book 45 = .ok (.aload_n 0, 1) := by decide +kernel
theorem dX9_book_46 : decode cX9_book 46 = .ok (.getfield 183, 3) := by decide +kernel
theorem dX9_book_49 : decode cX9_book 49 = .ok (.aload_n 0, 1) := by decide +kernel
theorem dX9_book_50 : decode cX9_book 50 = .ok (.getfield 174, 3) := by decide +kernel
theorem dX9_book_53 : decode cX9_book 53 = .ok (.iload_n 1, 1) := by decide +kernel
theorem dX9_book_54 : decode cX9_book 54 = .ok (.iastore, 1) := by decide +kernel
theorem dX9_book_55 : decode cX9_book 55 = .ok (.aload_n 0, 1) := by decide +kernel
theorem dX9_book_56 : decode cX9_book 56 = .ok (.getfield 186, 3) := by decide +kernel
theorem dX9_book_59 : decode cX9_book 59 = .ok (.aload_n 0, 1) := by decide +kernel
theorem dX9_book_60 : decode cX9_book 60 = .ok (.getfield 174, 3) := by decide +kernel
theorem dX9_book_63 : decode cX9_book 63 = .ok (.iload_n 2, 1) := by decide +kernel
theorem dX9_book_64 : decode cX9_book 64 = .ok (.iastore, 1) := by decide +kernel
theorem dX9_book_65 : decode cX9_book 65 = .ok (.aload_n 0, 1) := by decide +kernel
theorem dX9_book_66 : decode cX9_book 66 = .ok (.dup, 1) := by decide +kernel
theorem dX9_book_67 : decode cX9_book 67 = .ok (.getfield 174, 3) := by decide +kernel
theorem dX9_book_70 : decode cX9_book 70 = .ok (.iconst 1, 1) := by decide +kernel
theorem dX9_book_71 : decode cX9_book 71 = .ok (.iadd, 1) := by decide +kernel
theorem dX9_book_72 : decode cX9_book 72 = .ok (.putfield 174, 3) := by decide +kernel
theorem dX9_book_75 : decode cX9_book 75 = .ok (.aload_n 0, 1) := by decide +kernel
theorem dX9_book_76 : decode cX9_book 76 = .ok (.getfield 174, 3) := by decide +kernel
theorem dX9_book_79 : decode cX9_book 79 = .ok (.ireturn, 1) := by decide +kernel
theorem dX9_looked_0 : decode cX9_looked 0 = .ok (.iconst 0, 1) := by decide +kernel
theorem dX9_looked_1 : decode cX9_looked 1 = .ok (.istore_n 1, 1) := by decide +kernel
theorem dX9_looked_2 : decode cX9_looked 2 = .ok (.iload_n 1, 1) := by decide +kernel
theorem dX9_looked_3 : decode cX9_looked 3 = .ok (.aload_n 0, 1) := by decide +kernel
theorem dX9_looked_4 : decode cX9_looked 4 = .ok (.getfield 174, 3) := by decide +kernel
theorem dX9_looked_7 : decode cX9_looked 7 = .ok (.if_icmp .ge 31, 3) := by decide +kernel
theorem dX9_looked_10 : decode cX9_looked 10 = .ok (.aload_n 0, 1) := by decide +kernel
theorem dX9_looked_11 : decode cX9_looked 11 = .ok (.getfield 47, 3) := by decide +kernel
theorem dX9_looked_14 : decode cX9_looked 14 = .ok (.aload_n 0, 1) := by decide +kernel
theorem dX9_looked_15 : decode cX9_looked 15 = .ok (.getfield 183, 3) := by decide +kernel
theorem dX9_looked_18 : decode cX9_looked 18 = .ok (.iload_n 1, 1) := by decide +kernel
theorem dX9_looked_19 : decode cX9_looked 19 = .ok (.iaload, 1) := by decide +kernel
theorem dX9_looked_20 : decode cX9_looked 20 = .ok (.iaload, 1) := by decide +kernel
theorem dX9_looked_21 : decode cX9_looked 21 = .ok (.aload_n 0, 1) := by decide +kernel
theorem dX9_looked_22 : decode cX9_looked 22 = .ok (.getfield 186, 3) := by decide +kernel
theorem dX9_looked_25 : decode cX9_looked 25 = .ok (.iload_n 1, 1) := by decide +kernel
theorem dX9_looked_26 : decode cX9_looked 26 = .ok (.iaload, 1) := by decide +kernel
theorem dX9_looked_27 : decode cX9_looked 27 = .ok (.if_icmp .eq 5, 3) := by decide +kernel
theorem dX9_looked_30 : decode cX9_looked 30 = .ok (.iload_n 1, 1) := by decide +kernel
theorem dX9_looked_31 : decode cX9_looked 31 = .ok (.ireturn, 1) := by decide +kernel
theorem dX9_looked_32 : decode cX9_looked 32 = .ok (.iinc 1 1, 3) := by decide +kernel
theorem dX9_looked_35 : decode cX9_looked 35 = .ok (.goto (-33), 3) := by decide +kernel
theorem dX9_looked_38 : decode cX9_looked 38 = .ok (.bipush (-5), 2) := by decide +kernel
theorem dX9_looked_40 : decode cX9_looked 40 = .ok (.ireturn, 1) := by decide +kernel
theorem dX9_judge_0 : decode cX9_judge 0 = .ok (.aload_n 0, 1) := by decide +kernel
theorem dX9_judge_1 : decode cX9_judge 1 = .ok (.iload_n 1, 1) := by decide +kernel
theorem dX9_judge_2 : decode cX9_judge 2 = .ok (.invokevirtual 469, 3) := by decide +kernel
theorem dX9_judge_5 : decode cX9_judge 5 = .ok (.ifCond .ne 5, 3) := by decide +kernel
theorem dX9_judge_8 : decode cX9_judge 8 = .ok (.iconst (-1), 1) := by decide +kernel
theorem dX9_judge_9 : decode cX9_judge 9 = .ok (.ireturn, 1) := by decide +kernel
theorem dX9_judge_10 : decode cX9_judge 10 = .ok (.aload_n 0, 1) := by decide +kernel
theorem dX9_judge_11 : decode cX9_judge 11 = .ok (.getfield 280, 3) := by decide +kernel
theorem dX9_judge_14 : decode cX9_judge 14 = .ok (.iload_n 1, 1) := by decide +kernel
theorem dX9_judge_15 : decode cX9_judge 15 = .ok (.iaload, 1) := by decide +kernel
theorem dX9_judge_16 : decode cX9_judge 16 = .ok (.ifCond .le 6, 3) := by decide +kernel
theorem dX9_judge_19 : decode cX9_judge 19 = .ok (.bipush (-12), 2) := by decide +kernel
theorem dX9_judge_21 : decode cX9_judge 21 = .ok (.ireturn, 1) := by decide +kernel
theorem dX9_judge_22 : decode cX9_judge 22 = .ok (.iconst 0, 1) := by decide +kernel
theorem dX9_judge_23 : decode cX9_judge 23 = .ok (.istore_n 3, 1) := by decide +kernel
theorem dX9_judge_24 : decode cX9_judge 24 = .ok (.iload_n 3, 1) := by decide +kernel
theorem dX9_judge_25 : decode cX9_judge 25 = .ok (.aload_n 0, 1) := by decide +kernel
theorem dX9_judge_26 : decode cX9_judge 26 = .ok (.getfield 13, 3) := by decide +kernel
theorem dX9_judge_29 : decode cX9_judge 29 = .ok (.if_icmp .ge 67, 3) := by decide +kernel
theorem dX9_judge_32 : decode cX9_judge 32 = .ok (.aload_n 0, 1) := by decide +kernel
theorem dX9_judge_33 : decode cX9_judge 33 = .ok (.getfield 280, 3) := by decide +kernel
theorem dX9_judge_36 : decode cX9_judge 36 = .ok (.iload_n 1, 1) := by decide +kernel
theorem dX9_judge_37 : decode cX9_judge 37 = .ok (.iaload, 1) := by decide +kernel
theorem dX9_judge_38 : decode cX9_judge 38 = .ok (.ifCond .lt 21, 3) := by decide +kernel
theorem dX9_judge_41 : decode cX9_judge 41 = .ok (.iload_n 2, 1) := by decide +kernel
theorem dX9_judge_42 : decode cX9_judge 42 = .ok (.ifCond .lt 17, 3) := by decide +kernel
theorem dX9_judge_45 : decode cX9_judge 45 = .ok (.iload_n 2, 1) := by decide +kernel
theorem dX9_judge_46 : decode cX9_judge 46 = .ok (.aload_n 0, 1) := by decide +kernel
theorem dX9_judge_47 : decode cX9_judge 47 = .ok (.getfield 283, 3) := by decide +kernel
theorem dX9_judge_50 : decode cX9_judge 50 = .ok (.iload_n 1, 1) := by decide +kernel
theorem dX9_judge_51 : decode cX9_judge 51 = .ok (.iaload, 1) := by decide +kernel
theorem dX9_judge_52 : decode cX9_judge 52 = .ok (.iload_n 3, 1) := by decide +kernel
theorem dX9_judge_53 : decode cX9_judge 53 = .ok (.isub, 1) := by decide +kernel
theorem dX9_judge_54 : decode cX9_judge 54 = .ok (.iconst 1, 1) := by decide +kernel
theorem dX9_judge_55 : decode cX9_judge 55 = .ok (.isub, 1) := by decide +kernel
theorem dX9_judge_56 : decode cX9_judge 56 = .ok (.if_icmp .le 8, 3) := by decide +kernel
theorem dX9_judge_59 : decode cX9_judge 59 = .ok (.bipush 100, 2) := by decide +kernel
theorem dX9_judge_61 : decode cX9_judge 61 = .ok (.iload_n 3, 1) := by decide +kernel
theorem dX9_judge_62 : decode cX9_judge 62 = .ok (.iadd, 1) := by decide +kernel
theorem dX9_judge_63 : decode cX9_judge 63 = .ok (.ireturn, 1) := by decide +kernel
theorem dX9_judge_64 : decode cX9_judge 64 = .ok (.aload_n 0, 1) := by decide +kernel
theorem dX9_judge_65 : decode cX9_judge 65 = .ok (.getfield 286, 3) := by decide +kernel
theorem dX9_judge_68 : decode cX9_judge 68 = .ok (.bipush 60, 2) := by decide +kernel
theorem dX9_judge_70 : decode cX9_judge 70 = .ok (.iload_n 1, 1) := by decide +kernel
theorem dX9_judge_71 : decode cX9_judge 71 = .ok (.imul, 1) := by decide +kernel
theorem dX9_judge_72 : decode cX9_judge 72 = .ok (.iload_n 2, 1) := by decide +kernel
theorem dX9_judge_73 : decode cX9_judge 73 = .ok (.iadd, 1) := by decide +kernel
theorem dX9_judge_74 : decode cX9_judge 74 = .ok (.iload_n 3, 1) := by decide +kernel
theorem dX9_judge_75 : decode cX9_judge 75 = .ok (.iadd, 1) := by decide +kernel
theorem dX9_judge_76 : decode cX9_judge 76 = .ok (.laload, 1) := by decide +kernel
theorem dX9_judge_77 : decode cX9_judge 77 = .ok (.aload_n 0, 1) := by decide +kernel
theorem dX9_judge_78 : decode cX9_judge 78 = .ok (.getfield 47, 3) := by decide +kernel
theorem dX9_judge_81 : decode cX9_judge 81 = .ok (.iload_n 3, 1) := by decide +kernel
theorem dX9_judge_82 : decode cX9_judge 82 = .ok (.iaload, 1) := by decide +kernel
theorem dX9_judge_83 : decode cX9_judge 83 = .ok (.i2l, 1) := by decide +kernel
theorem dX9_judge_84 : decode cX9_judge 84 = .ok (.lcmp, 1) := by decide +kernel
theorem dX9_judge_85 : decode cX9_judge 85 = .ok (.ifCond .eq 5, 3) := by decide +kernel
theorem dX9_judge_88 : decode cX9_judge 88 = .ok (.iload_n 3, 1) := by decide +kernel
theorem dX9_judge_89 : decode cX9_judge 89 = .ok (.ireturn, 1) := by decide +kernel
theorem dX9_judge_90 : decode cX9_judge 90 = .ok (.iinc 3 1, 3) := by decide +kernel
theorem dX9_judge_93 : decode cX9_judge 93 = .ok (.goto (-69), 3) := by decide +kernel
theorem dX9_judge_96 : decode cX9_judge 96 = .ok (.bipush (-5), 2) := by decide +kernel
theorem dX9_judge_98 : decode cX9_judge 98 = .ok (.ireturn, 1) := by decide +kernel
theorem dX9_image_0 : decode cX9_image 0 = .ok (.aload_n 0, 1) := by decide +kernel
theorem dX9_image_1 : decode cX9_image 1 = .ok (.iconst 1, 1) := by decide +kernel
theorem dX9_image_2 : decode cX9_image 2 = .ok (.putfield 189, 3) := by decide +kernel
theorem dX9_image_5 : decode cX9_image 5 = .ok (.aload_n 0, 1) := by decide +kernel
theorem dX9_image_6 : decode cX9_image 6 = .ok (.aload_n 0, 1) := by decide +kernel
theorem dX9_image_7 : decode cX9_image 7 = .ok (.getfield 62, 3) := by decide +kernel
theorem dX9_image_10 : decode cX9_image 10 = .ok (.putfield 193, 3) := by decide +kernel
theorem dX9_image_13 : decode cX9_image 13 = .ok (.aload_n 0, 1) := by decide +kernel
theorem dX9_image_14 : decode cX9_image 14 = .ok (.aload_n 0, 1) := by decide +kernel
theorem dX9_image_15 : decode cX9_image 15 = .ok (.getfield 7, 3) := by decide +kernel
theorem dX9_image_18 : decode cX9_image 18 = .ok (.putfield 196, 3) := by decide +kernel
theorem dX9_image_21 : decode cX9_image 21 = .ok (.aload_n 0, 1) := by decide +kernel
theorem dX9_image_22 : decode cX9_image 22 = .ok (.aload_n 0, 1) := by decide +kernel
theorem dX9_image_23 : decode cX9_image 23 = .ok (.getfield 13, 3) := by decide +kernel
theorem dX9_image_26 : decode cX9_image 26 = .ok (.putfield 199, 3) := by decide +kernel
theorem dX9_image_29 : decode cX9_image 29 = .ok (.aload_n 0, 1) := by decide +kernel
theorem dX9_image_30 : decode cX9_image 30 = .ok (.aload_n 0, 1) := by decide +kernel
theorem dX9_image_31 : decode cX9_image 31 = .ok (.getfield 16, 3) := by decide +kernel
theorem dX9_image_34 : decode cX9_image 34 = .ok (.putfield 202, 3) := by decide +kernel
theorem dX9_image_37 : decode cX9_image 37 = .ok (.aload_n 0, 1) := by decide +kernel
theorem dX9_image_38 : decode cX9_image 38 = .ok (.aload_n 0, 1) := by decide +kernel
theorem dX9_image_39 : decode cX9_image 39 = .ok (.getfield 19, 3) := by decide +kernel
theorem dX9_image_42 : decode cX9_image 42 = .ok (.putfield 205, 3) := by decide +kernel
theorem dX9_image_45 : decode cX9_image 45 = .ok (.aload_n 0, 1) := by decide +kernel
theorem dX9_image_46 : decode cX9_image 46 = .ok (.aload_n 0, 1) := by decide +kernel
theorem dX9_image_47 : decode cX9_image 47 = .ok (.getfield 22, 3) := by decide +kernel
theorem dX9_image_50 : decode cX9_image 50 = .ok (.putfield 208, 3) := by decide +kernel
theorem dX9_image_53 : decode cX9_image 53 = .ok (.aload_n 0, 1) := by decide +kernel
theorem dX9_image_54 : decode cX9_image 54 = .ok (.aload_n 0, 1) := by decide +kernel
theorem dX9_image_55 : decode cX9_image 55 = .ok (.getfield 25, 3) := by decide +kernel
theorem dX9_image_58 : decode cX9_image 58 = .ok (.putfield 211, 3) := by decide +kernel
theorem dX9_image_61 : decode cX9_image 61 = .ok (.aload_n 0, 1) := by decide +kernel
theorem dX9_image_62 : decode cX9_image 62 = .ok (.aload_n 0, 1) := by decide +kernel
theorem dX9_image_63 : decode cX9_image 63 = .ok (.getfield 28, 3) := by decide +kernel
theorem dX9_image_66 : decode cX9_image 66 = .ok (.putfield 214, 3) := by decide +kernel
theorem dX9_image_69 : decode cX9_image 69 = .ok (.aload_n 0, 1) := by decide +kernel
theorem dX9_image_70 : decode cX9_image 70 = .ok (.aload_n 0, 1) := by decide +kernel
theorem dX9_image_71 : decode cX9_image 71 = .ok (.getfield 31, 3) := by decide +kernel
theorem dX9_image_74 : decode cX9_image 74 = .ok (.putfield 217, 3) := by decide +kernel
theorem dX9_image_77 : decode cX9_image 77 = .ok (.aload_n 0, 1) := by decide +kernel
theorem dX9_image_78 : decode cX9_image 78 = .ok (.aload_n 0, 1) := by decide +kernel
theorem dX9_image_79 : decode cX9_image 79 = .ok (.getfield 34, 3) := by decide +kernel
theorem dX9_image_82 : decode cX9_image 82 = .ok (.putfield 220, 3) := by decide +kernel
theorem dX9_image_85 : decode cX9_image 85 = .ok (.aload_n 0, 1) := by decide +kernel
theorem dX9_image_86 : decode cX9_image 86 = .ok (.aload_n 0, 1) := by decide +kernel
theorem dX9_image_87 : decode cX9_image 87 = .ok (.getfield 159, 3) := by decide +kernel
theorem dX9_image_90 : decode cX9_image 90 = .ok (.putfield 223, 3) := by decide +kernel
theorem dX9_image_93 : decode cX9_image 93 = .ok (.aload_n 0, 1) := by decide +kernel
theorem dX9_image_94 : decode cX9_image 94 = .ok (.aload_n 0, 1) := by decide +kernel
theorem dX9_image_95 : decode cX9_image 95 = .ok (.getfield 171, 3) := by decide +kernel
theorem dX9_image_98 : decode cX9_image 98 = .ok (.putfield 226, 3) := by decide +kernel
theorem dX9_image_101 : decode cX9_image 101 = .ok (.aload_n 0, 1) := by decide +kernel
theorem dX9_image_102 : decode cX9_image 102 = .ok (.aload_n 0, 1) := by decide +kernel
theorem dX9_image_103 : decode cX9_image 103 = .ok (.getfield 174, 3) := by decide +kernel
theorem dX9_image_106 : decode cX9_image 106 = .ok (.putfield 229, 3) := by decide +kernel
theorem dX9_image_109 : decode cX9_image 109 = .ok (.iconst 0, 1) := by decide +kernel
theorem dX9_image_110 : decode cX9_image 110 = .ok (.istore_n 1, 1) := by decide +kernel
theorem dX9_image_111 : decode cX9_image 111 = .ok (.iload_n 1, 1) := by decide +kernel
theorem dX9_image_112 : decode cX9_image 112 = .ok (.bipush 6, 2) := by decide +kernel
theorem dX9_image_114 : decode cX9_image 114 = .ok (.if_icmp .ge 81, 3) := by decide +kernel
theorem dX9_image_117 : decode cX9_image 117 = .ok (.aload_n 0, 1) := by decide +kernel
theorem dX9_image_118 : decode cX9_image 118 = .ok (.getfield 232, 3) := by decide +kernel
theorem dX9_image_121 : decode cX9_image 121 = .ok (.iload_n 1, 1) := by decide +kernel
theorem dX9_image_122 : decode cX9_image 122 = .ok (.aload_n 0, 1) := by decide +kernel
theorem dX9_image_123 : decode cX9_image 123 = .ok (.getfield 37, 3) := by decide +kernel
theorem dX9_image_126 : decode cX9_image 126 = .ok (.iload_n 1, 1) := by decide +kernel
theorem dX9_image_127 : decode cX9_image 127 = .ok (.iaload, 1) := by decide +kernel
theorem dX9_image_128 : decode cX9_image 128 = .ok (.iastore, 1) := by decide +kernel
theorem dX9_image_129 : decode cX9_image 129 = .ok (.aload_n 0, 1) := by decide +kernel
theorem dX9_image_130 : decode cX9_image 130 = .ok (.getfield 235, 3) := by decide +kernel
theorem dX9_image_133 : decode cX9_image 133 = .ok (.iload_n 1, 1) := by decide +kernel
theorem dX9_image_134 : decode cX9_image 134 = .ok (.aload_n 0, 1) := by decide +kernel
theorem dX9_image_135 : decode cX9_image 135 = .ok (.getfield 41, 3) := by decide +kernel
theorem dX9_image_138 : decode cX9_image 138 = .ok (.iload_n 1, 1) := by decide +kernel
theorem dX9_image_139 : decode cX9_image 139 = .ok (.iaload, 1) := by decide +kernel
theorem dX9_image_140 : decode cX9_image 140 = .ok (.iastore, 1) := by decide +kernel
theorem dX9_image_141 : decode cX9_image 141 = .ok (.aload_n 0, 1) := by decide +kernel
theorem dX9_image_142 : decode cX9_image 142 = .ok (.getfield 238, 3) := by decide +kernel
theorem dX9_image_145 : decode cX9_image 145 = .ok (.iload_n 1, 1) := by decide +kernel
theorem dX9_image_146 : decode cX9_image 146 = .ok (.aload_n 0, 1) := by decide +kernel
theorem dX9_image_147 : decode cX9_image 147 = .ok (.getfield 44, 3) := by decide +kernel
theorem dX9_image_150 : decode cX9_image 150 = .ok (.iload_n 1, 1) := by decide +kernel
theorem dX9_image_151 : decode cX9_image 151 = .ok (.iaload, 1) := by decide +kernel
theorem dX9_image_152 : decode cX9_image 152 = .ok (.iastore, 1) := by decide +kernel
theorem dX9_image_153 : decode cX9_image 153 = .ok (.aload_n 0, 1) := by decide +kernel
theorem dX9_image_154 : decode cX9_image 154 = .ok (.getfield 241, 3) := by decide +kernel
theorem dX9_image_157 : decode cX9_image 157 = .ok (.iload_n 1, 1) := by decide +kernel
theorem dX9_image_158 : decode cX9_image 158 = .ok (.aload_n 0, 1) := by decide +kernel
theorem dX9_image_159 : decode cX9_image 159 = .ok (.getfield 47, 3) := by decide +kernel
theorem dX9_image_162 : decode cX9_image 162 = .ok (.iload_n 1, 1) := by decide +kernel
theorem dX9_image_163 : decode cX9_image 163 = .ok (.iaload, 1) := by decide +kernel
theorem dX9_image_164 : decode cX9_image 164 = .ok (.iastore, 1) := by decide +kernel
theorem dX9_image_165 : decode cX9_image 165 = .ok (.aload_n 0, 1) := by decide +kernel
theorem dX9_image_166 : decode cX9_image 166 = .ok (.getfield 244, 3) := by decide +kernel
theorem dX9_image_169 : decode cX9_image 169 = .ok (.iload_n 1, 1) := by decide +kernel
theorem dX9_image_170 : decode cX9_image 170 = .ok (.aload_n 0, 1) := by decide +kernel
theorem dX9_image_171 : decode cX9_image 171 = .ok (.getfield 50, 3) := by decide +kernel
theorem dX9_image_174 : decode cX9_image 174 = .ok (.iload_n 1, 1) := by decide +kernel
theorem dX9_image_175 : decode cX9_image 175 = .ok (.iaload, 1) := by decide +kernel
theorem dX9_image_176 : decode cX9_image 176 = .ok (.iastore, 1) := by decide +kernel
theorem dX9_image_177 : decode cX9_image 177 = .ok (.aload_n 0, 1) := by decide +kernel
theorem dX9_image_178 : decode cX9_image 178 = .ok (.getfield 247, 3) := by decide +kernel
theorem dX9_image_181 : decode cX9_image 181 = .ok (.iload_n 1, 1) := by decide +kernel
theorem dX9_image_182 : decode cX9_image 182 = .ok (.aload_n 0, 1) := by decide +kernel
theorem dX9_image_183 : decode cX9_image 183 = .ok (.getfield 56, 3) := by decide +kernel
theorem dX9_image_186 : decode cX9_image 186 = .ok (.iload_n 1, 1) := by decide +kernel
theorem dX9_image_187 : decode cX9_image 187 = .ok (.iaload, 1) := by decide +kernel
theorem dX9_image_188 : decode cX9_image 188 = .ok (.iastore, 1) := by decide +kernel
theorem dX9_image_189 : decode cX9_image 189 = .ok (.iinc 1 1, 3) := by decide +kernel
theorem dX9_image_192 : decode cX9_image 192 = .ok (.goto (-81), 3) := by decide +kernel
theorem dX9_image_195 : decode cX9_image 195 = .ok (.iconst 0, 1) := by decide +kernel
theorem dX9_image_196 : decode cX9_image 196 = .ok (.istore_n 1, 1) := by decide +kernel
theorem dX9_image_197 : decode cX9_image 197 = .ok (.iload_n 1, 1) := by decide +kernel
theorem dX9_image_198 : decode cX9_image 198 = .ok (.bipush 24, 2) := by decide +kernel
theorem dX9_image_200 : decode cX9_image 200 = .ok (.if_icmp .ge 21, 3) := by decide +kernel
theorem dX9_image_203 : decode cX9_image 203 = .ok (.aload_n 0, 1) := by decide +kernel
theorem dX9_image_204 : decode cX9_image 204 = .ok (.getfield 250, 3) := by decide +kernel
theorem dX9_image_207 : decode cX9_image 207 = .ok (.iload_n 1, 1) := by decide +kernel
theorem dX9_image_208 : decode cX9_image 208 = .ok (.aload_n 0, 1) := by decide +kernel
theorem dX9_image_209 : decode cX9_image 209 = .ok (.getfield 53, 3) := by decide +kernel
theorem dX9_image_212 : decode cX9_image 212 = .ok (.iload_n 1, 1) := by decide +kernel
theorem dX9_image_213 : decode cX9_image 213 = .ok (.iaload, 1) := by decide +kernel
theorem dX9_image_214 : decode cX9_image 214 = .ok (.iastore, 1) := by decide +kernel
theorem dX9_image_215 : decode cX9_image 215 = .ok (.iinc 1 1, 3) := by decide +kernel
theorem dX9_image_218 : decode cX9_image 218 = .ok (.goto (-21), 3) := by decide +kernel
theorem dX9_image_221 : decode cX9_image 221 = .ok (.iconst 0, 1) := by decide +kernel
theorem dX9_image_222 : decode cX9_image 222 = .ok (.istore_n 1, 1) := by decide +kernel
theorem dX9_image_223 : decode cX9_image 223 = .ok (.iload_n 1, 1) := by decide +kernel
theorem dX9_image_224 : decode cX9_image 224 = .ok (.iconst 5, 1) := by decide +kernel
theorem dX9_image_225 : decode cX9_image 225 = .ok (.if_icmp .ge 45, 3) := by decide +kernel
theorem dX9_image_228 : decode cX9_image 228 = .ok (.aload_n 0, 1) := by decide +kernel
theorem dX9_image_229 : decode cX9_image 229 = .ok (.getfield 253, 3) := by decide +kernel
theorem dX9_image_232 : decode cX9_image 232 = .ok (.iload_n 1, 1) := by decide +kernel
theorem dX9_image_233 : decode cX9_image 233 = .ok (.aload_n 0, 1) := by decide +kernel
theorem dX9_image_234 : decode cX9_image 234 = .ok (.getfield 162, 3) := by decide +kernel
theorem dX9_image_237 : decode cX9_image 237 = .ok (.iload_n 1, 1) := by decide +kernel
theorem dX9_image_238 : decode cX9_image 238 = .ok (.iaload, 1) := by decide +kernel
theorem dX9_image_239 : decode cX9_image 239 = .ok (.iastore, 1) := by decide +kernel
theorem dX9_image_240 : decode cX9_image 240 = .ok (.aload_n 0, 1) := by decide +kernel
theorem dX9_image_241 : decode cX9_image 241 = .ok (.getfield 256, 3) := by decide +kernel
theorem dX9_image_244 : decode cX9_image 244 = .ok (.iload_n 1, 1) := by decide +kernel
theorem dX9_image_245 : decode cX9_image 245 = .ok (.aload_n 0, 1) := by decide +kernel
theorem dX9_image_246 : decode cX9_image 246 = .ok (.getfield 165, 3) := by decide +kernel
theorem dX9_image_249 : decode cX9_image 249 = .ok (.iload_n 1, 1) := by decide +kernel
theorem dX9_image_250 : decode cX9_image 250 = .ok (.iaload, 1) := by decide +kernel
theorem dX9_image_251 : decode cX9_image 251 = .ok (.iastore, 1) := by decide +kernel
theorem dX9_image_252 : decode cX9_image 252 = .ok (.aload_n 0, 1) := by decide +kernel
theorem dX9_image_253 : decode cX9_image 253 = .ok (.getfield 271, 3) := by decide +kernel
theorem dX9_image_256 : decode cX9_image 256 = .ok (.iload_n 1, 1) := by decide +kernel
theorem dX9_image_257 : decode cX9_image 257 = .ok (.aload_n 0, 1) := by decide +kernel
theorem dX9_image_258 : decode cX9_image 258 = .ok (.getfield 168, 3) := by decide +kernel
theorem dX9_image_261 : decode cX9_image 261 = .ok (.iload_n 1, 1) := by decide +kernel
theorem dX9_image_262 : decode cX9_image 262 = .ok (.baload, 1) := by decide +kernel
theorem dX9_image_263 : decode cX9_image 263 = .ok (.bastore, 1) := by decide +kernel
theorem dX9_image_264 : decode cX9_image 264 = .ok (.iinc 1 1, 3) := by decide +kernel
theorem dX9_image_267 : decode cX9_image 267 = .ok (.goto (-44), 3) := by decide +kernel
theorem dX9_image_270 : decode cX9_image 270 = .ok (.iconst 0, 1) := by decide +kernel
theorem dX9_image_271 : decode cX9_image 271 = .ok (.istore_n 1, 1) := by decide +kernel
theorem dX9_image_272 : decode cX9_image 272 = .ok (.iload_n 1, 1) := by decide +kernel
theorem dX9_image_273 : decode cX9_image 273 = .ok (.bipush 10, 2) := by decide +kernel
theorem dX9_image_275 : decode cX9_image 275 = .ok (.if_icmp .ge 33, 3) := by decide +kernel
theorem dX9_image_278 : decode cX9_image 278 = .ok (.aload_n 0, 1) := by decide +kernel
theorem dX9_image_279 : decode cX9_image 279 = .ok (.getfield 259, 3) := by decide +kernel
theorem dX9_image_282 : decode cX9_image 282 = .ok (.iload_n 1, 1) := by decide +kernel
theorem dX9_image_283 : decode cX9_image 283 = .ok (.aload_n 0, 1) := by decide +kernel
theorem dX9_image_284 : decode cX9_image 284 = .ok (.getfield 177, 3) := by decide +kernel
theorem dX9_image_287 : decode cX9_image 287 = .ok (.iload_n 1, 1) := by decide +kernel
theorem dX9_image_288 : decode cX9_image 288 = .ok (.iaload, 1) := by decide +kernel
theorem dX9_image_289 : decode cX9_image 289 = .ok (.iastore, 1) := by decide +kernel
theorem dX9_image_290 : decode cX9_image 290 = .ok (.aload_n 0, 1) := by decide +kernel
theorem dX9_image_291 : decode cX9_image 291 = .ok (.getfield 262, 3) := by decide +kernel
theorem dX9_image_294 : decode cX9_image 294 = .ok (.iload_n 1, 1) := by decide +kernel
theorem dX9_image_295 : decode cX9_image 295 = .ok (.aload_n 0, 1) := by decide +kernel
theorem dX9_image_296 : decode cX9_image 296 = .ok (.getfield 180, 3) := by decide +kernel
theorem dX9_image_299 : decode cX9_image 299 = .ok (.iload_n 1, 1) := by decide +kernel
theorem dX9_image_300 : decode cX9_image 300 = .ok (.iaload, 1) := by decide +kernel
theorem dX9_image_301 : decode cX9_image 301 = .ok (.iastore, 1) := by decide +kernel
theorem dX9_image_302 : decode cX9_image 302 = .ok (.iinc 1 1, 3) := by decide +kernel
theorem dX9_image_305 : decode cX9_image 305 = .ok (.goto (-33), 3) := by decide +kernel
theorem dX9_image_308 : decode cX9_image 308 = .ok (.iconst 0, 1) := by decide +kernel
theorem dX9_image_309 : decode cX9_image 309 = .ok (.istore_n 1, 1) := by decide +kernel
theorem dX9_image_310 : decode cX9_image 310 = .ok (.iload_n 1, 1) := by decide +kernel
theorem dX9_image_311 : decode cX9_image 311 = .ok (.bipush 8, 2) := by decide +kernel
