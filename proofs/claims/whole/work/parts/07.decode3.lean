theorem dX6_takesLinen_16 : decode cX6_takesLinen 16 = .ok (.iconst 1, 1) := by decide +kernel
theorem dX6_takesLinen_17 : decode cX6_takesLinen 17 = .ok (.isub, 1) := by decide +kernel
theorem dX6_takesLinen_18 : decode cX6_takesLinen 18 = .ok (.iastore, 1) := by decide +kernel
theorem dX6_takesLinen_19 : decode cX6_takesLinen 19 = .ok (.goto 45, 3) := by decide +kernel
theorem dX6_takesLinen_22 : decode cX6_takesLinen 22 = .ok (.aload_n 0, 1) := by decide +kernel
theorem dX6_takesLinen_23 : decode cX6_takesLinen 23 = .ok (.invokevirtual 101, 3) := by decide +kernel
theorem dX6_takesLinen_26 : decode cX6_takesLinen 26 = .ok (.istore_n 2, 1) := by decide +kernel
theorem dX6_takesLinen_27 : decode cX6_takesLinen 27 = .ok (.aload_n 0, 1) := by decide +kernel
theorem dX6_takesLinen_28 : decode cX6_takesLinen 28 = .ok (.getfield 19, 3) := by decide +kernel
theorem dX6_takesLinen_31 : decode cX6_takesLinen 31 = .ok (.iload_n 2, 1) := by decide +kernel
theorem dX6_takesLinen_32 : decode cX6_takesLinen 32 = .ok (.dup2, 1) := by decide +kernel
theorem dX6_takesLinen_33 : decode cX6_takesLinen 33 = .ok (.iaload, 1) := by decide +kernel
theorem dX6_takesLinen_34 : decode cX6_takesLinen 34 = .ok (.iconst 1, 1) := by decide +kernel
theorem dX6_takesLinen_35 : decode cX6_takesLinen 35 = .ok (.isub, 1) := by decide +kernel
theorem dX6_takesLinen_36 : decode cX6_takesLinen 36 = .ok (.iastore, 1) := by decide +kernel
theorem dX6_takesLinen_37 : decode cX6_takesLinen 37 = .ok (.aload_n 0, 1) := by decide +kernel
theorem dX6_takesLinen_38 : decode cX6_takesLinen 38 = .ok (.dup, 1) := by decide +kernel
theorem dX6_takesLinen_39 : decode cX6_takesLinen 39 = .ok (.getfield 112, 3) := by decide +kernel
theorem dX6_takesLinen_42 : decode cX6_takesLinen 42 = .ok (.iconst 1, 1) := by decide +kernel
theorem dX6_takesLinen_43 : decode cX6_takesLinen 43 = .ok (.iadd, 1) := by decide +kernel
theorem dX6_takesLinen_44 : decode cX6_takesLinen 44 = .ok (.putfield 112, 3) := by decide +kernel
theorem dX6_takesLinen_47 : decode cX6_takesLinen 47 = .ok (.aload_n 0, 1) := by decide +kernel
theorem dX6_takesLinen_48 : decode cX6_takesLinen 48 = .ok (.getfield 28, 3) := by decide +kernel
theorem dX6_takesLinen_51 : decode cX6_takesLinen 51 = .ok (.iconst 4, 1) := by decide +kernel
theorem dX6_takesLinen_52 : decode cX6_takesLinen 52 = .ok (.iload_n 1, 1) := by decide +kernel
theorem dX6_takesLinen_53 : decode cX6_takesLinen 53 = .ok (.imul, 1) := by decide +kernel
theorem dX6_takesLinen_54 : decode cX6_takesLinen 54 = .ok (.iload_n 2, 1) := by decide +kernel
theorem dX6_takesLinen_55 : decode cX6_takesLinen 55 = .ok (.iadd, 1) := by decide +kernel
theorem dX6_takesLinen_56 : decode cX6_takesLinen 56 = .ok (.dup2, 1) := by decide +kernel
theorem dX6_takesLinen_57 : decode cX6_takesLinen 57 = .ok (.iaload, 1) := by decide +kernel
theorem dX6_takesLinen_58 : decode cX6_takesLinen 58 = .ok (.aload_n 0, 1) := by decide +kernel
theorem dX6_takesLinen_59 : decode cX6_takesLinen 59 = .ok (.getfield 112, 3) := by decide +kernel
theorem dX6_takesLinen_62 : decode cX6_takesLinen 62 = .ok (.iadd, 1) := by decide +kernel
theorem dX6_takesLinen_63 : decode cX6_takesLinen 63 = .ok (.iastore, 1) := by decide +kernel
theorem dX6_takesLinen_64 : decode cX6_takesLinen 64 = .ok (.aload_n 0, 1) := by decide +kernel
theorem dX6_takesLinen_65 : decode cX6_takesLinen 65 = .ok (.getfield 22, 3) := by decide +kernel
theorem dX6_takesLinen_68 : decode cX6_takesLinen 68 = .ok (.iload_n 1, 1) := by decide +kernel
theorem dX6_takesLinen_69 : decode cX6_takesLinen 69 = .ok (.dup2, 1) := by decide +kernel
theorem dX6_takesLinen_70 : decode cX6_takesLinen 70 = .ok (.iaload, 1) := by decide +kernel
theorem dX6_takesLinen_71 : decode cX6_takesLinen 71 = .ok (.iconst 1, 1) := by decide +kernel
theorem dX6_takesLinen_72 : decode cX6_takesLinen 72 = .ok (.iadd, 1) := by decide +kernel
theorem dX6_takesLinen_73 : decode cX6_takesLinen 73 = .ok (.iastore, 1) := by decide +kernel
theorem dX6_takesLinen_74 : decode cX6_takesLinen 74 = .ok (.return_, 1) := by decide +kernel
set_option maxRecDepth 20000 in
theorem ggX6_come_X6_in : GoodIn wsX6_come wsX6_in := goodIn_r _ [20] (by decide +kernel) (by decide +kernel)
set_option maxRecDepth 20000 in
theorem gX6_come_X6_in : GoodIn wsX6_come (va_wsS RX6 69 yX6_in wsX6_in) := goodIn_app (goodIn_of _ (by decide +kernel)) ggX6_come_X6_in
set_option maxRecDepth 20000 in
theorem ggX6_come_X6_isFine : GoodIn wsX6_come wsX6_isFine := goodIn_r _ [24, 25, 49, 50, 51, 52, 53, 54, 55, 56, 57, 58, 59, 60, 61, 62, 63, 64, 65, 66, 67, 68, 69, 70, 71, 72] (by decide +kernel) (by decide +kernel)
set_option maxRecDepth 20000 in
theorem gX6_come_X6_isFine : GoodIn wsX6_come (wsV RX6 81 RX6 yX6_isFine wsX6_isFine) := goodIn_app (goodIn_of _ (by decide +kernel)) ggX6_come_X6_isFine
set_option maxRecDepth 20000 in
theorem ggX6_come_X6_finds : GoodIn wsX6_come wsX6_finds := goodIn_r _ [29, 30, 31, 32, 33, 19, 34, 35, 36, 37, 38, 8, 39, 40, 41, 42, 49, 50, 51, 52, 53, 54, 55, 56, 57, 58, 59, 60, 61, 62, 63, 64, 65, 66, 67, 68, 69, 70, 71, 72] (by decide +kernel) (by decide +kernel)
set_option maxRecDepth 20000 in
theorem gX6_come_X6_finds : GoodIn wsX6_come (wsV RX6 115 RX6 yX6_finds wsX6_finds) := goodIn_app (goodIn_of _ (by decide +kernel)) ggX6_come_X6_finds
set_option maxRecDepth 20000 in
theorem ggX6_come_X6_takesLinen : GoodIn wsX6_come wsX6_takesLinen := goodIn_r _ [46, 30, 47, 11, 48, 31, 32, 33, 19, 34, 49, 50, 51, 52, 53, 54, 55, 56, 57, 58, 59, 60, 61, 62, 63, 64, 65, 66, 67, 68, 69, 70, 71, 72] (by decide +kernel) (by decide +kernel)
set_option maxRecDepth 20000 in
theorem gX6_come_X6_takesLinen : GoodIn wsX6_come (wsV RX6 118 RX6 yX6_takesLinen wsX6_takesLinen) := goodIn_app (goodIn_of _ (by decide +kernel)) ggX6_come_X6_takesLinen
theorem dX6_come_0 : decode cX6_come 0 = .ok (.aload_n 0, 1) := by decide +kernel
theorem dX6_come_1 : decode cX6_come 1 = .ok (.iload_n 1, 1) := by decide +kernel
theorem dX6_come_2 : decode cX6_come 2 = .ok (.iconst 0, 1) := by decide +kernel
theorem dX6_come_3 : decode cX6_come 3 = .ok (.aload_n 0, 1) := by decide +kernel
theorem dX6_come_4 : decode cX6_come 4 = .ok (.getfield 94, 3) := by decide +kernel
theorem dX6_come_7 : decode cX6_come 7 = .ok (.iconst 1, 1) := by decide +kernel
theorem dX6_come_8 : decode cX6_come 8 = .ok (.isub, 1) := by decide +kernel
theorem dX6_come_9 : decode cX6_come 9 = .ok (.invokestatic 69, 3) := by decide +kernel
theorem dX6_come_12 : decode cX6_come 12 = .ok (.ifCond .ne 7, 3) := by decide +kernel
theorem dX6_come_15 : decode cX6_come 15 = .ok (.iconst 1, 1) := by decide +kernel
theorem dX6_come_16 : decode cX6_come 16 = .ok (.goto 30, 3) := by decide +kernel
theorem dX6_come_19 : decode cX6_come 19 = .ok (.aload_n 0, 1) := by decide +kernel
theorem dX6_come_20 : decode cX6_come 20 = .ok (.getfield 46, 3) := by decide +kernel
theorem dX6_come_23 : decode cX6_come 23 = .ok (.iload_n 1, 1) := by decide +kernel
theorem dX6_come_24 : decode cX6_come 24 = .ok (.iaload, 1) := by decide +kernel
theorem dX6_come_25 : decode cX6_come 25 = .ok (.aload_n 0, 1) := by decide +kernel
theorem dX6_come_26 : decode cX6_come 26 = .ok (.getfield 88, 3) := by decide +kernel
theorem dX6_come_29 : decode cX6_come 29 = .ok (.if_icmp .ne 12, 3) := by decide +kernel
theorem dX6_come_32 : decode cX6_come 32 = .ok (.aload_n 0, 1) := by decide +kernel
theorem dX6_come_33 : decode cX6_come 33 = .ok (.getfield 49, 3) := by decide +kernel
theorem dX6_come_36 : decode cX6_come 36 = .ok (.iload_n 1, 1) := by decide +kernel
theorem dX6_come_37 : decode cX6_come 37 = .ok (.baload, 1) := by decide +kernel
theorem dX6_come_38 : decode cX6_come 38 = .ok (.ifCond .eq 7, 3) := by decide +kernel
theorem dX6_come_41 : decode cX6_come 41 = .ok (.iconst 2, 1) := by decide +kernel
theorem dX6_come_42 : decode cX6_come 42 = .ok (.goto 4, 3) := by decide +kernel
theorem dX6_come_45 : decode cX6_come 45 = .ok (.iconst 0, 1) := by decide +kernel
theorem dX6_come_46 : decode cX6_come 46 = .ok (.invokevirtual 81, 3) := by decide +kernel
theorem dX6_come_49 : decode cX6_come 49 = .ok (.ifCond .ne 5, 3) := by decide +kernel
theorem dX6_come_52 : decode cX6_come 52 = .ok (.iconst 0, 1) := by decide +kernel
theorem dX6_come_53 : decode cX6_come 53 = .ok (.ireturn, 1) := by decide +kernel
theorem dX6_come_54 : decode cX6_come 54 = .ok (.aload_n 0, 1) := by decide +kernel
theorem dX6_come_55 : decode cX6_come 55 = .ok (.getfield 40, 3) := by decide +kernel
theorem dX6_come_58 : decode cX6_come 58 = .ok (.iload_n 1, 1) := by decide +kernel
theorem dX6_come_59 : decode cX6_come 59 = .ok (.iaload, 1) := by decide +kernel
theorem dX6_come_60 : decode cX6_come 60 = .ok (.istore_n 2, 1) := by decide +kernel
theorem dX6_come_61 : decode cX6_come 61 = .ok (.aload_n 0, 1) := by decide +kernel
theorem dX6_come_62 : decode cX6_come 62 = .ok (.getfield 43, 3) := by decide +kernel
theorem dX6_come_65 : decode cX6_come 65 = .ok (.iload_n 1, 1) := by decide +kernel
theorem dX6_come_66 : decode cX6_come 66 = .ok (.iaload, 1) := by decide +kernel
theorem dX6_come_67 : decode cX6_come 67 = .ok (.istore_n 3, 1) := by decide +kernel
theorem dX6_come_68 : decode cX6_come 68 = .ok (.aload_n 0, 1) := by decide +kernel
theorem dX6_come_69 : decode cX6_come 69 = .ok (.iload_n 2, 1) := by decide +kernel
theorem dX6_come_70 : decode cX6_come 70 = .ok (.iload_n 3, 1) := by decide +kernel
theorem dX6_come_71 : decode cX6_come 71 = .ok (.invokevirtual 115, 3) := by decide +kernel
theorem dX6_come_74 : decode cX6_come 74 = .ok (.istore 4, 2) := by decide +kernel
theorem dX6_come_76 : decode cX6_come 76 = .ok (.aload_n 0, 1) := by decide +kernel
theorem dX6_come_77 : decode cX6_come 77 = .ok (.getfield 49, 3) := by decide +kernel
theorem dX6_come_80 : decode cX6_come 80 = .ok (.iload_n 1, 1) := by decide +kernel
theorem dX6_come_81 : decode cX6_come 81 = .ok (.iconst 1, 1) := by decide +kernel
theorem dX6_come_82 : decode cX6_come 82 = .ok (.bastore, 1) := by decide +kernel
theorem dX6_come_83 : decode cX6_come 83 = .ok (.aload_n 0, 1) := by decide +kernel
theorem dX6_come_84 : decode cX6_come 84 = .ok (.getfield 53, 3) := by decide +kernel
theorem dX6_come_87 : decode cX6_come 87 = .ok (.iload_n 1, 1) := by decide +kernel
theorem dX6_come_88 : decode cX6_come 88 = .ok (.iload 4, 2) := by decide +kernel
theorem dX6_come_90 : decode cX6_come 90 = .ok (.iastore, 1) := by decide +kernel
theorem dX6_come_91 : decode cX6_come 91 = .ok (.iload 4, 2) := by decide +kernel
theorem dX6_come_93 : decode cX6_come 93 = .ok (.iconst (-1), 1) := by decide +kernel
theorem dX6_come_94 : decode cX6_come 94 = .ok (.if_icmp .eq 137, 3) := by decide +kernel
theorem dX6_come_97 : decode cX6_come 97 = .ok (.aload_n 0, 1) := by decide +kernel
theorem dX6_come_98 : decode cX6_come 98 = .ok (.getfield 16, 3) := by decide +kernel
theorem dX6_come_101 : decode cX6_come 101 = .ok (.iconst 2, 1) := by decide +kernel
theorem dX6_come_102 : decode cX6_come 102 = .ok (.iload 4, 2) := by decide +kernel
theorem dX6_come_104 : decode cX6_come 104 = .ok (.imul, 1) := by decide +kernel
theorem dX6_come_105 : decode cX6_come 105 = .ok (.iload_n 3, 1) := by decide +kernel
theorem dX6_come_106 : decode cX6_come 106 = .ok (.iadd, 1) := by decide +kernel
theorem dX6_come_107 : decode cX6_come 107 = .ok (.dup2, 1) := by decide +kernel
theorem dX6_come_108 : decode cX6_come 108 = .ok (.iaload, 1) := by decide +kernel
theorem dX6_come_109 : decode cX6_come 109 = .ok (.iconst 1, 1) := by decide +kernel
theorem dX6_come_110 : decode cX6_come 110 = .ok (.iadd, 1) := by decide +kernel
theorem dX6_come_111 : decode cX6_come 111 = .ok (.iastore, 1) := by decide +kernel
theorem dX6_come_112 : decode cX6_come 112 = .ok (.aload_n 0, 1) := by decide +kernel
theorem dX6_come_113 : decode cX6_come 113 = .ok (.iload 4, 2) := by decide +kernel
theorem dX6_come_115 : decode cX6_come 115 = .ok (.invokevirtual 118, 3) := by decide +kernel
theorem dX6_come_118 : decode cX6_come 118 = .ok (.aload_n 0, 1) := by decide +kernel
theorem dX6_come_119 : decode cX6_come 119 = .ok (.getfield 25, 3) := by decide +kernel
theorem dX6_come_122 : decode cX6_come 122 = .ok (.iload_n 2, 1) := by decide +kernel
theorem dX6_come_123 : decode cX6_come 123 = .ok (.dup2, 1) := by decide +kernel
theorem dX6_come_124 : decode cX6_come 124 = .ok (.iaload, 1) := by decide +kernel
theorem dX6_come_125 : decode cX6_come 125 = .ok (.aload_n 0, 1) := by decide +kernel
theorem dX6_come_126 : decode cX6_come 126 = .ok (.getfield 13, 3) := by decide +kernel
theorem dX6_come_129 : decode cX6_come 129 = .ok (.iconst 2, 1) := by decide +kernel
theorem dX6_come_130 : decode cX6_come 130 = .ok (.iload_n 2, 1) := by decide +kernel
theorem dX6_come_131 : decode cX6_come 131 = .ok (.imul, 1) := by decide +kernel
theorem dX6_come_132 : decode cX6_come 132 = .ok (.iload_n 3, 1) := by decide +kernel
theorem dX6_come_133 : decode cX6_come 133 = .ok (.iadd, 1) := by decide +kernel
theorem dX6_come_134 : decode cX6_come 134 = .ok (.iaload, 1) := by decide +kernel
theorem dX6_come_135 : decode cX6_come 135 = .ok (.iadd, 1) := by decide +kernel
theorem dX6_come_136 : decode cX6_come 136 = .ok (.iastore, 1) := by decide +kernel
theorem dX6_come_137 : decode cX6_come 137 = .ok (.aload_n 0, 1) := by decide +kernel
theorem dX6_come_138 : decode cX6_come 138 = .ok (.getfield 28, 3) := by decide +kernel
theorem dX6_come_141 : decode cX6_come 141 = .ok (.iconst 4, 1) := by decide +kernel
theorem dX6_come_142 : decode cX6_come 142 = .ok (.iload_n 2, 1) := by decide +kernel
theorem dX6_come_143 : decode cX6_come 143 = .ok (.imul, 1) := by decide +kernel
theorem dX6_come_144 : decode cX6_come 144 = .ok (.iload 4, 2) := by decide +kernel
theorem dX6_come_146 : decode cX6_come 146 = .ok (.iadd, 1) := by decide +kernel
theorem dX6_come_147 : decode cX6_come 147 = .ok (.dup2, 1) := by decide +kernel
theorem dX6_come_148 : decode cX6_come 148 = .ok (.iaload, 1) := by decide +kernel
theorem dX6_come_149 : decode cX6_come 149 = .ok (.iload 4, 2) := by decide +kernel
theorem dX6_come_151 : decode cX6_come 151 = .ok (.iload_n 2, 1) := by decide +kernel
theorem dX6_come_152 : decode cX6_come 152 = .ok (.if_icmp .ne 7, 3) := by decide +kernel
theorem dX6_come_155 : decode cX6_come 155 = .ok (.iconst 0, 1) := by decide +kernel
theorem dX6_come_156 : decode cX6_come 156 = .ok (.goto 14, 3) := by decide +kernel
theorem dX6_come_159 : decode cX6_come 159 = .ok (.aload_n 0, 1) := by decide +kernel
theorem dX6_come_160 : decode cX6_come 160 = .ok (.getfield 13, 3) := by decide +kernel
theorem dX6_come_163 : decode cX6_come 163 = .ok (.iconst 2, 1) := by decide +kernel
theorem dX6_come_164 : decode cX6_come 164 = .ok (.iload 4, 2) := by decide +kernel
theorem dX6_come_166 : decode cX6_come 166 = .ok (.imul, 1) := by decide +kernel
theorem dX6_come_167 : decode cX6_come 167 = .ok (.iload_n 3, 1) := by decide +kernel
theorem dX6_come_168 : decode cX6_come 168 = .ok (.iadd, 1) := by decide +kernel
theorem dX6_come_169 : decode cX6_come 169 = .ok (.iaload, 1) := by decide +kernel
theorem dX6_come_170 : decode cX6_come 170 = .ok (.iadd, 1) := by decide +kernel
theorem dX6_come_171 : decode cX6_come 171 = .ok (.iastore, 1) := by decide +kernel
theorem dX6_come_172 : decode cX6_come 172 = .ok (.aload_n 0, 1) := by decide +kernel
theorem dX6_come_173 : decode cX6_come 173 = .ok (.getfield 56, 3) := by decide +kernel
theorem dX6_come_176 : decode cX6_come 176 = .ok (.aload_n 0, 1) := by decide +kernel
theorem dX6_come_177 : decode cX6_come 177 = .ok (.getfield 122, 3) := by decide +kernel
theorem dX6_come_180 : decode cX6_come 180 = .ok (.aload_n 0, 1) := by decide +kernel
theorem dX6_come_181 : decode cX6_come 181 = .ok (.getfield 37, 3) := by decide +kernel
theorem dX6_come_184 : decode cX6_come 184 = .ok (.iload_n 1, 1) := by decide +kernel
theorem dX6_come_185 : decode cX6_come 185 = .ok (.iaload, 1) := by decide +kernel
theorem dX6_come_186 : decode cX6_come 186 = .ok (.iastore, 1) := by decide +kernel
theorem dX6_come_187 : decode cX6_come 187 = .ok (.aload_n 0, 1) := by decide +kernel
theorem dX6_come_188 : decode cX6_come 188 = .ok (.getfield 59, 3) := by decide +kernel
theorem dX6_come_191 : decode cX6_come 191 = .ok (.aload_n 0, 1) := by decide +kernel
theorem dX6_come_192 : decode cX6_come 192 = .ok (.getfield 122, 3) := by decide +kernel
theorem dX6_come_195 : decode cX6_come 195 = .ok (.iload 4, 2) := by decide +kernel
theorem dX6_come_197 : decode cX6_come 197 = .ok (.iastore, 1) := by decide +kernel
theorem dX6_come_198 : decode cX6_come 198 = .ok (.aload_n 0, 1) := by decide +kernel
theorem dX6_come_199 : decode cX6_come 199 = .ok (.getfield 62, 3) := by decide +kernel
theorem dX6_come_202 : decode cX6_come 202 = .ok (.aload_n 0, 1) := by decide +kernel
theorem dX6_come_203 : decode cX6_come 203 = .ok (.getfield 122, 3) := by decide +kernel
theorem dX6_come_206 : decode cX6_come 206 = .ok (.aload_n 0, 1) := by decide +kernel
theorem dX6_come_207 : decode cX6_come 207 = .ok (.getfield 13, 3) := by decide +kernel
theorem dX6_come_210 : decode cX6_come 210 = .ok (.iconst 2, 1) := by decide +kernel
theorem dX6_come_211 : decode cX6_come 211 = .ok (.iload 4, 2) := by decide +kernel
theorem dX6_come_213 : decode cX6_come 213 = .ok (.imul, 1) := by decide +kernel
theorem dX6_come_214 : decode cX6_come 214 = .ok (.iload_n 3, 1) := by decide +kernel
theorem dX6_come_215 : decode cX6_come 215 = .ok (.iadd, 1) := by decide +kernel
theorem dX6_come_216 : decode cX6_come 216 = .ok (.iaload, 1) := by decide +kernel
theorem dX6_come_217 : decode cX6_come 217 = .ok (.bipush 10, 2) := by decide +kernel
theorem dX6_come_219 : decode cX6_come 219 = .ok (.idiv, 1) := by decide +kernel
theorem dX6_come_220 : decode cX6_come 220 = .ok (.iastore, 1) := by decide +kernel
theorem dX6_come_221 : decode cX6_come 221 = .ok (.aload_n 0, 1) := by decide +kernel
theorem dX6_come_222 : decode cX6_come 222 = .ok (.dup, 1) := by decide +kernel
theorem dX6_come_223 : decode cX6_come 223 = .ok (.getfield 122, 3) := by decide +kernel
theorem dX6_come_226 : decode cX6_come 226 = .ok (.iconst 1, 1) := by decide +kernel
theorem dX6_come_227 : decode cX6_come 227 = .ok (.iadd, 1) := by decide +kernel
theorem dX6_come_228 : decode cX6_come 228 = .ok (.putfield 122, 3) := by decide +kernel
theorem dX6_come_231 : decode cX6_come 231 = .ok (.iload 4, 2) := by decide +kernel
theorem dX6_come_233 : decode cX6_come 233 = .ok (.ireturn, 1) := by decide +kernel
theorem dX6_pointsOf_0 : decode cX6_pointsOf 0 = .ok (.iconst 0, 1) := by decide +kernel
theorem dX6_pointsOf_1 : decode cX6_pointsOf 1 = .ok (.istore_n 2, 1) := by decide +kernel
theorem dX6_pointsOf_2 : decode cX6_pointsOf 2 = .ok (.iconst 0, 1) := by decide +kernel
theorem dX6_pointsOf_3 : decode cX6_pointsOf 3 = .ok (.istore_n 3, 1) := by decide +kernel
theorem dX6_pointsOf_4 : decode cX6_pointsOf 4 = .ok (.iload_n 3, 1) := by decide +kernel
theorem dX6_pointsOf_5 : decode cX6_pointsOf 5 = .ok (.aload_n 0, 1) := by decide +kernel
theorem dX6_pointsOf_6 : decode cX6_pointsOf 6 = .ok (.getfield 122, 3) := by decide +kernel
theorem dX6_pointsOf_9 : decode cX6_pointsOf 9 = .ok (.if_icmp .ge 32, 3) := by decide +kernel
theorem dX6_pointsOf_12 : decode cX6_pointsOf 12 = .ok (.iload_n 2, 1) := by decide +kernel
theorem dX6_pointsOf_13 : decode cX6_pointsOf 13 = .ok (.aload_n 0, 1) := by decide +kernel
theorem dX6_pointsOf_14 : decode cX6_pointsOf 14 = .ok (.getfield 56, 3) := by decide +kernel
theorem dX6_pointsOf_17 : decode cX6_pointsOf 17 = .ok (.iload_n 3, 1) := by decide +kernel
theorem dX6_pointsOf_18 : decode cX6_pointsOf 18 = .ok (.iaload, 1) := by decide +kernel
theorem dX6_pointsOf_19 : decode cX6_pointsOf 19 = .ok (.iload_n 1, 1) := by decide +kernel
theorem dX6_pointsOf_20 : decode cX6_pointsOf 20 = .ok (.if_icmp .ne 12, 3) := by decide +kernel
theorem dX6_pointsOf_23 : decode cX6_pointsOf 23 = .ok (.aload_n 0, 1) := by decide +kernel
theorem dX6_pointsOf_24 : decode cX6_pointsOf 24 = .ok (.getfield 62, 3) := by decide +kernel
theorem dX6_pointsOf_27 : decode cX6_pointsOf 27 = .ok (.iload_n 3, 1) := by decide +kernel
theorem dX6_pointsOf_28 : decode cX6_pointsOf 28 = .ok (.iaload, 1) := by decide +kernel
theorem dX6_pointsOf_29 : decode cX6_pointsOf 29 = .ok (.goto 4, 3) := by decide +kernel
theorem dX6_pointsOf_32 : decode cX6_pointsOf 32 = .ok (.iconst 0, 1) := by decide +kernel
theorem dX6_pointsOf_33 : decode cX6_pointsOf 33 = .ok (.iadd, 1) := by decide +kernel
theorem dX6_pointsOf_34 : decode cX6_pointsOf 34 = .ok (.istore_n 2, 1) := by decide +kernel
theorem dX6_pointsOf_35 : decode cX6_pointsOf 35 = .ok (.iinc 3 1, 3) := by decide +kernel
theorem dX6_pointsOf_38 : decode cX6_pointsOf 38 = .ok (.goto (-34), 3) := by decide +kernel
theorem dX6_pointsOf_41 : decode cX6_pointsOf 41 = .ok (.iload_n 2, 1) := by decide +kernel
theorem dX6_pointsOf_42 : decode cX6_pointsOf 42 = .ok (.ireturn, 1) := by decide +kernel
set_option maxRecDepth 20000 in
theorem ggX6_burn_X6_isGuest : GoodIn wsX6_burn wsX6_isGuest := goodIn_r _ [9, 10, 11, 8, 12] (by decide +kernel) (by decide +kernel)
set_option maxRecDepth 20000 in
theorem gX6_burn_X6_isGuest : GoodIn wsX6_burn (va_wsS RX6 91 yX6_isGuest wsX6_isGuest) := goodIn_app (goodIn_of _ (by decide +kernel)) ggX6_burn_X6_isGuest
set_option maxRecDepth 20000 in
theorem ggX6_burn_X6_isInn : GoodIn wsX6_burn wsX6_isInn := goodIn_r _ [15, 10, 11, 8, 12] (by decide +kernel) (by decide +kernel)
set_option maxRecDepth 20000 in
theorem gX6_burn_X6_isInn : GoodIn wsX6_burn (va_wsS RX6 73 yX6_isInn wsX6_isInn) := goodIn_app (goodIn_of _ (by decide +kernel)) ggX6_burn_X6_isInn
set_option maxRecDepth 20000 in
theorem ggX6_burn_X6_in : GoodIn wsX6_burn wsX6_in := goodIn_r _ [12] (by decide +kernel) (by decide +kernel)
set_option maxRecDepth 20000 in
theorem gX6_burn_X6_in : GoodIn wsX6_burn (va_wsS RX6 69 yX6_in wsX6_in) := goodIn_app (goodIn_of _ (by decide +kernel)) ggX6_burn_X6_in
set_option maxRecDepth 20000 in
theorem ggX6_burn_X6_pointsOf : GoodIn wsX6_burn wsX6_pointsOf := goodIn_r _ [19, 1, 2, 3, 25, 26, 27, 28, 29, 30, 31, 32, 33, 34, 35, 36, 37, 38, 39, 40, 41, 42, 43, 44, 45, 46, 47, 48] (by decide +kernel) (by decide +kernel)
set_option maxRecDepth 20000 in
theorem gX6_burn_X6_pointsOf : GoodIn wsX6_burn (wsV RX6 125 RX6 yX6_pointsOf wsX6_pointsOf) := goodIn_app (goodIn_of _ (by decide +kernel)) ggX6_burn_X6_pointsOf
set_option maxRecDepth 20000 in
theorem ggX6_burn_X6_isFine : GoodIn wsX6_burn wsX6_isFine := goodIn_r _ [23, 24, 25, 26, 27, 28, 29, 30, 31, 32, 33, 34, 35, 36, 37, 38, 39, 40, 41, 42, 43, 44, 45, 46, 47, 48] (by decide +kernel) (by decide +kernel)
set_option maxRecDepth 20000 in
theorem gX6_burn_X6_isFine : GoodIn wsX6_burn (wsV RX6 81 RX6 yX6_isFine wsX6_isFine) := goodIn_app (goodIn_of _ (by decide +kernel)) ggX6_burn_X6_isFine
theorem dX6_burn_0 : decode cX6_burn 0 = .ok (.iload_n 1, 1) := by decide +kernel
theorem dX6_burn_1 : decode cX6_burn 1 = .ok (.invokestatic 91, 3) := by decide +kernel
theorem dX6_burn_4 : decode cX6_burn 4 = .ok (.ifCond .eq 10, 3) := by decide +kernel
theorem dX6_burn_7 : decode cX6_burn 7 = .ok (.iload_n 2, 1) := by decide +kernel
theorem dX6_burn_8 : decode cX6_burn 8 = .ok (.invokestatic 73, 3) := by decide +kernel
theorem dX6_burn_11 : decode cX6_burn 11 = .ok (.ifCond .ne 7, 3) := by decide +kernel
theorem dX6_burn_14 : decode cX6_burn 14 = .ok (.iconst 1, 1) := by decide +kernel
theorem dX6_burn_15 : decode cX6_burn 15 = .ok (.goto 18, 3) := by decide +kernel
theorem dX6_burn_18 : decode cX6_burn 18 = .ok (.iload_n 3, 1) := by decide +kernel
theorem dX6_burn_19 : decode cX6_burn 19 = .ok (.iconst 1, 1) := by decide +kernel
theorem dX6_burn_20 : decode cX6_burn 20 = .ok (.bipush 100, 2) := by decide +kernel
theorem dX6_burn_22 : decode cX6_burn 22 = .ok (.invokestatic 69, 3) := by decide +kernel
theorem dX6_burn_25 : decode cX6_burn 25 = .ok (.ifCond .ne 7, 3) := by decide +kernel
theorem dX6_burn_28 : decode cX6_burn 28 = .ok (.iconst 2, 1) := by decide +kernel
theorem dX6_burn_29 : decode cX6_burn 29 = .ok (.goto 4, 3) := by decide +kernel
theorem dX6_burn_32 : decode cX6_burn 32 = .ok (.iconst 0, 1) := by decide +kernel
theorem dX6_burn_33 : decode cX6_burn 33 = .ok (.istore 4, 2) := by decide +kernel
theorem dX6_burn_35 : decode cX6_burn 35 = .ok (.aload_n 0, 1) := by decide +kernel
theorem dX6_burn_36 : decode cX6_burn 36 = .ok (.iload 4, 2) := by decide +kernel
theorem dX6_burn_38 : decode cX6_burn 38 = .ok (.ifCond .ne 16, 3) := by decide +kernel
theorem dX6_burn_41 : decode cX6_burn 41 = .ok (.aload_n 0, 1) := by decide +kernel
theorem dX6_burn_42 : decode cX6_burn 42 = .ok (.iload_n 1, 1) := by decide +kernel
theorem dX6_burn_43 : decode cX6_burn 43 = .ok (.invokevirtual 125, 3) := by decide +kernel
theorem dX6_burn_46 : decode cX6_burn 46 = .ok (.iload_n 3, 1) := by decide +kernel
theorem dX6_burn_47 : decode cX6_burn 47 = .ok (.if_icmp .ge 7, 3) := by decide +kernel
theorem dX6_burn_50 : decode cX6_burn 50 = .ok (.iconst 3, 1) := by decide +kernel
theorem dX6_burn_51 : decode cX6_burn 51 = .ok (.goto 5, 3) := by decide +kernel
theorem dX6_burn_54 : decode cX6_burn 54 = .ok (.iload 4, 2) := by decide +kernel
theorem dX6_burn_56 : decode cX6_burn 56 = .ok (.invokevirtual 81, 3) := by decide +kernel
theorem dX6_burn_59 : decode cX6_burn 59 = .ok (.ifCond .ne 5, 3) := by decide +kernel
theorem dX6_burn_62 : decode cX6_burn 62 = .ok (.iconst 0, 1) := by decide +kernel
theorem dX6_burn_63 : decode cX6_burn 63 = .ok (.ireturn, 1) := by decide +kernel
theorem dX6_burn_64 : decode cX6_burn 64 = .ok (.iload_n 3, 1) := by decide +kernel
theorem dX6_burn_65 : decode cX6_burn 65 = .ok (.istore 5, 2) := by decide +kernel
theorem dX6_burn_67 : decode cX6_burn 67 = .ok (.iconst 0, 1) := by decide +kernel
theorem dX6_burn_68 : decode cX6_burn 68 = .ok (.istore 6, 2) := by decide +kernel
theorem dX6_burn_70 : decode cX6_burn 70 = .ok (.iload 6, 2) := by decide +kernel
theorem dX6_burn_72 : decode cX6_burn 72 = .ok (.aload_n 0, 1) := by decide +kernel
theorem dX6_burn_73 : decode cX6_burn 73 = .ok (.getfield 122, 3) := by decide +kernel
theorem dX6_burn_76 : decode cX6_burn 76 = .ok (.if_icmp .ge 105, 3) := by decide +kernel
theorem dX6_burn_79 : decode cX6_burn 79 = .ok (.aload_n 0, 1) := by decide +kernel
theorem dX6_burn_80 : decode cX6_burn 80 = .ok (.getfield 56, 3) := by decide +kernel
theorem dX6_burn_83 : decode cX6_burn 83 = .ok (.iload 6, 2) := by decide +kernel
theorem dX6_burn_85 : decode cX6_burn 85 = .ok (.iaload, 1) := by decide +kernel
theorem dX6_burn_86 : decode cX6_burn 86 = .ok (.iload_n 1, 1) := by decide +kernel
theorem dX6_burn_87 : decode cX6_burn 87 = .ok (.if_icmp .eq 7, 3) := by decide +kernel
theorem dX6_burn_90 : decode cX6_burn 90 = .ok (.iconst 0, 1) := by decide +kernel
theorem dX6_burn_91 : decode cX6_burn 91 = .ok (.goto 27, 3) := by decide +kernel
theorem dX6_burn_94 : decode cX6_burn 94 = .ok (.aload_n 0, 1) := by decide +kernel
theorem dX6_burn_95 : decode cX6_burn 95 = .ok (.getfield 62, 3) := by decide +kernel
theorem dX6_burn_98 : decode cX6_burn 98 = .ok (.iload 6, 2) := by decide +kernel
theorem dX6_burn_100 : decode cX6_burn 100 = .ok (.iaload, 1) := by decide +kernel
theorem dX6_burn_101 : decode cX6_burn 101 = .ok (.iload 5, 2) := by decide +kernel
theorem dX6_burn_103 : decode cX6_burn 103 = .ok (.if_icmp .ge 13, 3) := by decide +kernel
theorem dX6_burn_106 : decode cX6_burn 106 = .ok (.aload_n 0, 1) := by decide +kernel
theorem dX6_burn_107 : decode cX6_burn 107 = .ok (.getfield 62, 3) := by decide +kernel
theorem dX6_burn_110 : decode cX6_burn 110 = .ok (.iload 6, 2) := by decide +kernel
theorem dX6_burn_112 : decode cX6_burn 112 = .ok (.iaload, 1) := by decide +kernel
theorem dX6_burn_113 : decode cX6_burn 113 = .ok (.goto 5, 3) := by decide +kernel
theorem dX6_burn_116 : decode cX6_burn 116 = .ok (.iload 5, 2) := by decide +kernel
theorem dX6_burn_118 : decode cX6_burn 118 = .ok (.istore 7, 2) := by decide +kernel
theorem dX6_burn_120 : decode cX6_burn 120 = .ok (.aload_n 0, 1) := by decide +kernel
theorem dX6_burn_121 : decode cX6_burn 121 = .ok (.getfield 62, 3) := by decide +kernel
theorem dX6_burn_124 : decode cX6_burn 124 = .ok (.iload 6, 2) := by decide +kernel
theorem dX6_burn_126 : decode cX6_burn 126 = .ok (.dup2, 1) := by decide +kernel
theorem dX6_burn_127 : decode cX6_burn 127 = .ok (.iaload, 1) := by decide +kernel
theorem dX6_burn_128 : decode cX6_burn 128 = .ok (.iload 7, 2) := by decide +kernel
theorem dX6_burn_130 : decode cX6_burn 130 = .ok (.isub, 1) := by decide +kernel
theorem dX6_burn_131 : decode cX6_burn 131 = .ok (.iastore, 1) := by decide +kernel
theorem dX6_burn_132 : decode cX6_burn 132 = .ok (.iload 5, 2) := by decide +kernel
theorem dX6_burn_134 : decode cX6_burn 134 = .ok (.iload 7, 2) := by decide +kernel
theorem dX6_burn_136 : decode cX6_burn 136 = .ok (.isub, 1) := by decide +kernel
theorem dX6_burn_137 : decode cX6_burn 137 = .ok (.istore 5, 2) := by decide +kernel
theorem dX6_burn_139 : decode cX6_burn 139 = .ok (.aload_n 0, 1) := by decide +kernel
theorem dX6_burn_140 : decode cX6_burn 140 = .ok (.getfield 28, 3) := by decide +kernel
theorem dX6_burn_143 : decode cX6_burn 143 = .ok (.iconst 4, 1) := by decide +kernel
theorem dX6_burn_144 : decode cX6_burn 144 = .ok (.aload_n 0, 1) := by decide +kernel
theorem dX6_burn_145 : decode cX6_burn 145 = .ok (.getfield 59, 3) := by decide +kernel
theorem dX6_burn_148 : decode cX6_burn 148 = .ok (.iload 6, 2) := by decide +kernel
theorem dX6_burn_150 : decode cX6_burn 150 = .ok (.iaload, 1) := by decide +kernel
theorem dX6_burn_151 : decode cX6_burn 151 = .ok (.imul, 1) := by decide +kernel
theorem dX6_burn_152 : decode cX6_burn 152 = .ok (.iload_n 2, 1) := by decide +kernel
theorem dX6_burn_153 : decode cX6_burn 153 = .ok (.iadd, 1) := by decide +kernel
theorem dX6_burn_154 : decode cX6_burn 154 = .ok (.dup2, 1) := by decide +kernel
theorem dX6_burn_155 : decode cX6_burn 155 = .ok (.iaload, 1) := by decide +kernel
theorem dX6_burn_156 : decode cX6_burn 156 = .ok (.aload_n 0, 1) := by decide +kernel
theorem dX6_burn_157 : decode cX6_burn 157 = .ok (.getfield 59, 3) := by decide +kernel
theorem dX6_burn_160 : decode cX6_burn 160 = .ok (.iload 6, 2) := by decide +kernel
theorem dX6_burn_162 : decode cX6_burn 162 = .ok (.iaload, 1) := by decide +kernel
theorem dX6_burn_163 : decode cX6_burn 163 = .ok (.iload_n 2, 1) := by decide +kernel
theorem dX6_burn_164 : decode cX6_burn 164 = .ok (.if_icmp .ne 7, 3) := by decide +kernel
theorem dX6_burn_167 : decode cX6_burn 167 = .ok (.iconst 0, 1) := by decide +kernel
theorem dX6_burn_168 : decode cX6_burn 168 = .ok (.goto 5, 3) := by decide +kernel
theorem dX6_burn_171 : decode cX6_burn 171 = .ok (.iload 7, 2) := by decide +kernel
theorem dX6_burn_173 : decode cX6_burn 173 = .ok (.iadd, 1) := by decide +kernel
theorem dX6_burn_174 : decode cX6_burn 174 = .ok (.iastore, 1) := by decide +kernel
theorem dX6_burn_175 : decode cX6_burn 175 = .ok (.iinc 6 1, 3) := by decide +kernel
theorem dX6_burn_178 : decode cX6_burn 178 = .ok (.goto (-108), 3) := by decide +kernel
theorem dX6_burn_181 : decode cX6_burn 181 = .ok (.aload_n 0, 1) := by decide +kernel
theorem dX6_burn_182 : decode cX6_burn 182 = .ok (.iload_n 1, 1) := by decide +kernel
theorem dX6_burn_183 : decode cX6_burn 183 = .ok (.invokevirtual 125, 3) := by decide +kernel
theorem dX6_burn_186 : decode cX6_burn 186 = .ok (.ireturn, 1) := by decide +kernel
set_option maxRecDepth 20000 in
theorem ggX6_night_X6_isFine : GoodIn wsX6_night wsX6_isFine := goodIn_r _ [17, 18, 19, 20, 21, 22, 23, 24, 25, 26, 27, 28, 29, 30, 31, 32, 33, 34, 35, 36, 37, 38, 39, 40, 41, 42] (by decide +kernel) (by decide +kernel)
set_option maxRecDepth 20000 in
theorem gX6_night_X6_isFine : GoodIn wsX6_night (wsV RX6 81 RX6 yX6_isFine wsX6_isFine) := goodIn_app (goodIn_of _ (by decide +kernel)) ggX6_night_X6_isFine
theorem dX6_night_0 : decode cX6_night 0 = .ok (.aload_n 0, 1) := by decide +kernel
theorem dX6_night_1 : decode cX6_night 1 = .ok (.aload_n 0, 1) := by decide +kernel
theorem dX6_night_2 : decode cX6_night 2 = .ok (.getfield 88, 3) := by decide +kernel
theorem dX6_night_5 : decode cX6_night 5 = .ok (.sipush 300, 3) := by decide +kernel
theorem dX6_night_8 : decode cX6_night 8 = .ok (.if_icmp .ne 7, 3) := by decide +kernel
theorem dX6_night_11 : decode cX6_night 11 = .ok (.iconst 1, 1) := by decide +kernel
theorem dX6_night_12 : decode cX6_night 12 = .ok (.goto 4, 3) := by decide +kernel
theorem dX6_night_15 : decode cX6_night 15 = .ok (.iconst 0, 1) := by decide +kernel
theorem dX6_night_16 : decode cX6_night 16 = .ok (.invokevirtual 81, 3) := by decide +kernel
theorem dX6_night_19 : decode cX6_night 19 = .ok (.ifCond .ne 5, 3) := by decide +kernel
theorem dX6_night_22 : decode cX6_night 22 = .ok (.iconst 0, 1) := by decide +kernel
theorem dX6_night_23 : decode cX6_night 23 = .ok (.ireturn, 1) := by decide +kernel
theorem dX6_night_24 : decode cX6_night 24 = .ok (.iconst 0, 1) := by decide +kernel
theorem dX6_night_25 : decode cX6_night 25 = .ok (.istore_n 1, 1) := by decide +kernel
theorem dX6_night_26 : decode cX6_night 26 = .ok (.iconst 0, 1) := by decide +kernel
theorem dX6_night_27 : decode cX6_night 27 = .ok (.istore_n 2, 1) := by decide +kernel
theorem dX6_night_28 : decode cX6_night 28 = .ok (.iload_n 2, 1) := by decide +kernel
theorem dX6_night_29 : decode cX6_night 29 = .ok (.aload_n 0, 1) := by decide +kernel
theorem dX6_night_30 : decode cX6_night 30 = .ok (.getfield 94, 3) := by decide +kernel
theorem dX6_night_33 : decode cX6_night 33 = .ok (.if_icmp .ge 79, 3) := by decide +kernel
theorem dX6_night_36 : decode cX6_night 36 = .ok (.aload_n 0, 1) := by decide +kernel
theorem dX6_night_37 : decode cX6_night 37 = .ok (.getfield 46, 3) := by decide +kernel
theorem dX6_night_40 : decode cX6_night 40 = .ok (.iload_n 2, 1) := by decide +kernel
theorem dX6_night_41 : decode cX6_night 41 = .ok (.iaload, 1) := by decide +kernel
theorem dX6_night_42 : decode cX6_night 42 = .ok (.aload_n 0, 1) := by decide +kernel
theorem dX6_night_43 : decode cX6_night 43 = .ok (.getfield 88, 3) := by decide +kernel
theorem dX6_night_46 : decode cX6_night 46 = .ok (.if_icmp .ne 16, 3) := by decide +kernel
theorem dX6_night_49 : decode cX6_night 49 = .ok (.aload_n 0, 1) := by decide +kernel
theorem dX6_night_50 : decode cX6_night 50 = .ok (.getfield 49, 3) := by decide +kernel
theorem dX6_night_53 : decode cX6_night 53 = .ok (.iload_n 2, 1) := by decide +kernel
theorem dX6_night_54 : decode cX6_night 54 = .ok (.baload, 1) := by decide +kernel
theorem dX6_night_55 : decode cX6_night 55 = .ok (.ifCond .ne 7, 3) := by decide +kernel
theorem dX6_night_58 : decode cX6_night 58 = .ok (.iconst 1, 1) := by decide +kernel
theorem dX6_night_59 : decode cX6_night 59 = .ok (.goto 4, 3) := by decide +kernel
theorem dX6_night_62 : decode cX6_night 62 = .ok (.iconst 0, 1) := by decide +kernel
theorem dX6_night_63 : decode cX6_night 63 = .ok (.istore_n 3, 1) := by decide +kernel
theorem dX6_night_64 : decode cX6_night 64 = .ok (.aload_n 0, 1) := by decide +kernel
theorem dX6_night_65 : decode cX6_night 65 = .ok (.getfield 34, 3) := by decide +kernel
theorem dX6_night_68 : decode cX6_night 68 = .ok (.iconst 4, 1) := by decide +kernel
theorem dX6_night_69 : decode cX6_night 69 = .ok (.aload_n 0, 1) := by decide +kernel
theorem dX6_night_70 : decode cX6_night 70 = .ok (.getfield 88, 3) := by decide +kernel
theorem dX6_night_73 : decode cX6_night 73 = .ok (.imul, 1) := by decide +kernel
theorem dX6_night_74 : decode cX6_night 74 = .ok (.aload_n 0, 1) := by decide +kernel
theorem dX6_night_75 : decode cX6_night 75 = .ok (.getfield 40, 3) := by decide +kernel
theorem dX6_night_78 : decode cX6_night 78 = .ok (.iload_n 2, 1) := by decide +kernel
theorem dX6_night_79 : decode cX6_night 79 = .ok (.iaload, 1) := by decide +kernel
theorem dX6_night_80 : decode cX6_night 80 = .ok (.iadd, 1) := by decide +kernel
theorem dX6_night_81 : decode cX6_night 81 = .ok (.dup2, 1) := by decide +kernel
theorem dX6_night_82 : decode cX6_night 82 = .ok (.iaload, 1) := by decide +kernel
theorem dX6_night_83 : decode cX6_night 83 = .ok (.iload_n 3, 1) := by decide +kernel
theorem dX6_night_84 : decode cX6_night 84 = .ok (.ifCond .eq 7, 3) := by decide +kernel
theorem dX6_night_87 : decode cX6_night 87 = .ok (.iconst 1, 1) := by decide +kernel
theorem dX6_night_88 : decode cX6_night 88 = .ok (.goto 4, 3) := by decide +kernel
theorem dX6_night_91 : decode cX6_night 91 = .ok (.iconst 0, 1) := by decide +kernel
theorem dX6_night_92 : decode cX6_night 92 = .ok (.iadd, 1) := by decide +kernel
theorem dX6_night_93 : decode cX6_night 93 = .ok (.iastore, 1) := by decide +kernel
theorem dX6_night_94 : decode cX6_night 94 = .ok (.iload_n 1, 1) := by decide +kernel
theorem dX6_night_95 : decode cX6_night 95 = .ok (.iload_n 3, 1) := by decide +kernel
theorem dX6_night_96 : decode cX6_night 96 = .ok (.ifCond .eq 7, 3) := by decide +kernel
theorem dX6_night_99 : decode cX6_night 99 = .ok (.iconst 1, 1) := by decide +kernel
theorem dX6_night_100 : decode cX6_night 100 = .ok (.goto 4, 3) := by decide +kernel
theorem dX6_night_103 : decode cX6_night 103 = .ok (.iconst 0, 1) := by decide +kernel
theorem dX6_night_104 : decode cX6_night 104 = .ok (.iadd, 1) := by decide +kernel
theorem dX6_night_105 : decode cX6_night 105 = .ok (.istore_n 1, 1) := by decide +kernel
theorem dX6_night_106 : decode cX6_night 106 = .ok (.iinc 2 1, 3) := by decide +kernel
theorem dX6_night_109 : decode cX6_night 109 = .ok (.goto (-81), 3) := by decide +kernel
theorem dX6_night_112 : decode cX6_night 112 = .ok (.iconst 0, 1) := by decide +kernel
theorem dX6_night_113 : decode cX6_night 113 = .ok (.istore_n 2, 1) := by decide +kernel
theorem dX6_night_114 : decode cX6_night 114 = .ok (.iload_n 2, 1) := by decide +kernel
theorem dX6_night_115 : decode cX6_night 115 = .ok (.iconst 4, 1) := by decide +kernel
theorem dX6_night_116 : decode cX6_night 116 = .ok (.if_icmp .ge 90, 3) := by decide +kernel
theorem dX6_night_119 : decode cX6_night 119 = .ok (.aload_n 0, 1) := by decide +kernel
theorem dX6_night_120 : decode cX6_night 120 = .ok (.getfield 31, 3) := by decide +kernel
theorem dX6_night_123 : decode cX6_night 123 = .ok (.iconst 4, 1) := by decide +kernel
theorem dX6_night_124 : decode cX6_night 124 = .ok (.aload_n 0, 1) := by decide +kernel
theorem dX6_night_125 : decode cX6_night 125 = .ok (.getfield 88, 3) := by decide +kernel
theorem dX6_night_128 : decode cX6_night 128 = .ok (.imul, 1) := by decide +kernel
theorem dX6_night_129 : decode cX6_night 129 = .ok (.iload_n 2, 1) := by decide +kernel
theorem dX6_night_130 : decode cX6_night 130 = .ok (.iadd, 1) := by decide +kernel
theorem dX6_night_131 : decode cX6_night 131 = .ok (.aload_n 0, 1) := by decide +kernel
theorem dX6_night_132 : decode cX6_night 132 = .ok (.getfield 22, 3) := by decide +kernel
theorem dX6_night_135 : decode cX6_night 135 = .ok (.iload_n 2, 1) := by decide +kernel
theorem dX6_night_136 : decode cX6_night 136 = .ok (.iaload, 1) := by decide +kernel
theorem dX6_night_137 : decode cX6_night 137 = .ok (.iastore, 1) := by decide +kernel
theorem dX6_night_138 : decode cX6_night 138 = .ok (.aload_n 0, 1) := by decide +kernel
theorem dX6_night_139 : decode cX6_night 139 = .ok (.getfield 22, 3) := by decide +kernel
theorem dX6_night_142 : decode cX6_night 142 = .ok (.iload_n 2, 1) := by decide +kernel
theorem dX6_night_143 : decode cX6_night 143 = .ok (.iconst 0, 1) := by decide +kernel
theorem dX6_night_144 : decode cX6_night 144 = .ok (.iastore, 1) := by decide +kernel
theorem dX6_night_145 : decode cX6_night 145 = .ok (.iconst 0, 1) := by decide +kernel
theorem dX6_night_146 : decode cX6_night 146 = .ok (.istore_n 3, 1) := by decide +kernel
theorem dX6_night_147 : decode cX6_night 147 = .ok (.iload_n 3, 1) := by decide +kernel
theorem dX6_night_148 : decode cX6_night 148 = .ok (.aload_n 0, 1) := by decide +kernel
theorem dX6_night_149 : decode cX6_night 149 = .ok (.getfield 88, 3) := by decide +kernel
theorem dX6_night_152 : decode cX6_night 152 = .ok (.iconst 2, 1) := by decide +kernel
theorem dX6_night_153 : decode cX6_night 153 = .ok (.isub, 1) := by decide +kernel
theorem dX6_night_154 : decode cX6_night 154 = .ok (.if_icmp .gt 46, 3) := by decide +kernel
theorem dX6_night_157 : decode cX6_night 157 = .ok (.aload_n 0, 1) := by decide +kernel
theorem dX6_night_158 : decode cX6_night 158 = .ok (.getfield 84, 3) := by decide +kernel
theorem dX6_night_161 : decode cX6_night 161 = .ok (.ifCond .ne 39, 3) := by decide +kernel
theorem dX6_night_164 : decode cX6_night 164 = .ok (.aload_n 0, 1) := by decide +kernel
theorem dX6_night_165 : decode cX6_night 165 = .ok (.getfield 19, 3) := by decide +kernel
theorem dX6_night_168 : decode cX6_night 168 = .ok (.iload_n 2, 1) := by decide +kernel
theorem dX6_night_169 : decode cX6_night 169 = .ok (.dup2, 1) := by decide +kernel
theorem dX6_night_170 : decode cX6_night 170 = .ok (.iaload, 1) := by decide +kernel
theorem dX6_night_171 : decode cX6_night 171 = .ok (.aload_n 0, 1) := by decide +kernel
theorem dX6_night_172 : decode cX6_night 172 = .ok (.getfield 31, 3) := by decide +kernel
theorem dX6_night_175 : decode cX6_night 175 = .ok (.iconst 4, 1) := by decide +kernel
theorem dX6_night_176 : decode cX6_night 176 = .ok (.iload_n 3, 1) := by decide +kernel
theorem dX6_night_177 : decode cX6_night 177 = .ok (.imul, 1) := by decide +kernel
theorem dX6_night_178 : decode cX6_night 178 = .ok (.iload_n 2, 1) := by decide +kernel
theorem dX6_night_179 : decode cX6_night 179 = .ok (.iadd, 1) := by decide +kernel
theorem dX6_night_180 : decode cX6_night 180 = .ok (.iaload, 1) := by decide +kernel
theorem dX6_night_181 : decode cX6_night 181 = .ok (.iadd, 1) := by decide +kernel
theorem dX6_night_182 : decode cX6_night 182 = .ok (.iastore, 1) := by decide +kernel
theorem dX6_night_183 : decode cX6_night 183 = .ok (.aload_n 0, 1) := by decide +kernel
theorem dX6_night_184 : decode cX6_night 184 = .ok (.getfield 31, 3) := by decide +kernel
theorem dX6_night_187 : decode cX6_night 187 = .ok (.iconst 4, 1) := by decide +kernel
theorem dX6_night_188 : decode cX6_night 188 = .ok (.iload_n 3, 1) := by decide +kernel
theorem dX6_night_189 : decode cX6_night 189 = .ok (.imul, 1) := by decide +kernel
theorem dX6_night_190 : decode cX6_night 190 = .ok (.iload_n 2, 1) := by decide +kernel
theorem dX6_night_191 : decode cX6_night 191 = .ok (.iadd, 1) := by decide +kernel
theorem dX6_night_192 : decode cX6_night 192 = .ok (.iconst 0, 1) := by decide +kernel
theorem dX6_night_193 : decode cX6_night 193 = .ok (.iastore, 1) := by decide +kernel
theorem dX6_night_194 : decode cX6_night 194 = .ok (.iinc 3 1, 3) := by decide +kernel
theorem dX6_night_197 : decode cX6_night 197 = .ok (.goto (-50), 3) := by decide +kernel
theorem dX6_night_200 : decode cX6_night 200 = .ok (.iinc 2 1, 3) := by decide +kernel
theorem dX6_night_203 : decode cX6_night 203 = .ok (.goto (-89), 3) := by decide +kernel
theorem dX6_night_206 : decode cX6_night 206 = .ok (.iconst 0, 1) := by decide +kernel
theorem dX6_night_207 : decode cX6_night 207 = .ok (.istore_n 2, 1) := by decide +kernel
theorem dX6_night_208 : decode cX6_night 208 = .ok (.iload_n 2, 1) := by decide +kernel
theorem dX6_night_209 : decode cX6_night 209 = .ok (.bipush 8, 2) := by decide +kernel
theorem dX6_night_211 : decode cX6_night 211 = .ok (.if_icmp .ge 16, 3) := by decide +kernel
theorem dX6_night_214 : decode cX6_night 214 = .ok (.aload_n 0, 1) := by decide +kernel
theorem dX6_night_215 : decode cX6_night 215 = .ok (.getfield 16, 3) := by decide +kernel
theorem dX6_night_218 : decode cX6_night 218 = .ok (.iload_n 2, 1) := by decide +kernel
theorem dX6_night_219 : decode cX6_night 219 = .ok (.iconst 0, 1) := by decide +kernel
theorem dX6_night_220 : decode cX6_night 220 = .ok (.iastore, 1) := by decide +kernel
theorem dX6_night_221 : decode cX6_night 221 = .ok (.iinc 2 1, 3) := by decide +kernel
theorem dX6_night_224 : decode cX6_night 224 = .ok (.goto (-16), 3) := by decide +kernel
theorem dX6_night_227 : decode cX6_night 227 = .ok (.aload_n 0, 1) := by decide +kernel
theorem dX6_night_228 : decode cX6_night 228 = .ok (.iconst 0, 1) := by decide +kernel
theorem dX6_night_229 : decode cX6_night 229 = .ok (.putfield 112, 3) := by decide +kernel
theorem dX6_night_232 : decode cX6_night 232 = .ok (.aload_n 0, 1) := by decide +kernel
theorem dX6_night_233 : decode cX6_night 233 = .ok (.dup, 1) := by decide +kernel
theorem dX6_night_234 : decode cX6_night 234 = .ok (.getfield 88, 3) := by decide +kernel
theorem dX6_night_237 : decode cX6_night 237 = .ok (.iconst 1, 1) := by decide +kernel
theorem dX6_night_238 : decode cX6_night 238 = .ok (.iadd, 1) := by decide +kernel
theorem dX6_night_239 : decode cX6_night 239 = .ok (.putfield 88, 3) := by decide +kernel
theorem dX6_night_242 : decode cX6_night 242 = .ok (.iload_n 1, 1) := by decide +kernel
theorem dX6_night_243 : decode cX6_night 243 = .ok (.ireturn, 1) := by decide +kernel
theorem dX6_owed_0 : decode cX6_owed 0 = .ok (.aload_n 0, 1) := by decide +kernel
theorem dX6_owed_1 : decode cX6_owed 1 = .ok (.getfield 28, 3) := by decide +kernel
theorem dX6_owed_4 : decode cX6_owed 4 = .ok (.iconst 4, 1) := by decide +kernel
theorem dX6_owed_5 : decode cX6_owed 5 = .ok (.iload_n 1, 1) := by decide +kernel
theorem dX6_owed_6 : decode cX6_owed 6 = .ok (.imul, 1) := by decide +kernel
theorem dX6_owed_7 : decode cX6_owed 7 = .ok (.iload_n 2, 1) := by decide +kernel
theorem dX6_owed_8 : decode cX6_owed 8 = .ok (.iadd, 1) := by decide +kernel
theorem dX6_owed_9 : decode cX6_owed 9 = .ok (.iaload, 1) := by decide +kernel
theorem dX6_owed_10 : decode cX6_owed 10 = .ok (.aload_n 0, 1) := by decide +kernel
theorem dX6_owed_11 : decode cX6_owed 11 = .ok (.getfield 28, 3) := by decide +kernel
theorem dX6_owed_14 : decode cX6_owed 14 = .ok (.iconst 4, 1) := by decide +kernel
theorem dX6_owed_15 : decode cX6_owed 15 = .ok (.iload_n 2, 1) := by decide +kernel
theorem dX6_owed_16 : decode cX6_owed 16 = .ok (.imul, 1) := by decide +kernel
theorem dX6_owed_17 : decode cX6_owed 17 = .ok (.iload_n 1, 1) := by decide +kernel
theorem dX6_owed_18 : decode cX6_owed 18 = .ok (.iadd, 1) := by decide +kernel
theorem dX6_owed_19 : decode cX6_owed 19 = .ok (.iaload, 1) := by decide +kernel
theorem dX6_owed_20 : decode cX6_owed 20 = .ok (.isub, 1) := by decide +kernel
theorem dX6_owed_21 : decode cX6_owed 21 = .ok (.istore_n 3, 1) := by decide +kernel
theorem dX6_owed_22 : decode cX6_owed 22 = .ok (.iload_n 3, 1) := by decide +kernel
theorem dX6_owed_23 : decode cX6_owed 23 = .ok (.ifCond .le 7, 3) := by decide +kernel
theorem dX6_owed_26 : decode cX6_owed 26 = .ok (.iload_n 3, 1) := by decide +kernel
theorem dX6_owed_27 : decode cX6_owed 27 = .ok (.goto 4, 3) := by decide +kernel
theorem dX6_owed_30 : decode cX6_owed 30 = .ok (.iconst 0, 1) := by decide +kernel
theorem dX6_owed_31 : decode cX6_owed 31 = .ok (.ireturn, 1) := by decide +kernel
set_option maxRecDepth 20000 in
theorem ggX6_settle_X6_owed : GoodIn wsX6_settle wsX6_owed := goodIn_r _ [8, 3, 9, 10, 11, 12, 13, 14, 15, 16, 17, 18, 19, 20, 21, 22, 23, 24, 25, 26, 27, 28, 29, 30, 31, 32] (by decide +kernel) (by decide +kernel)
set_option maxRecDepth 20000 in
theorem gX6_settle_X6_owed : GoodIn wsX6_settle (wsV RX6 128 RX6 yX6_owed wsX6_owed) := goodIn_app (goodIn_of _ (by decide +kernel)) ggX6_settle_X6_owed
theorem dX6_settle_0 : decode cX6_settle 0 = .ok (.aload_n 0, 1) := by decide +kernel
theorem dX6_settle_1 : decode cX6_settle 1 = .ok (.iconst 0, 1) := by decide +kernel
theorem dX6_settle_2 : decode cX6_settle 2 = .ok (.putfield 65, 3) := by decide +kernel
theorem dX6_settle_5 : decode cX6_settle 5 = .ok (.iconst 0, 1) := by decide +kernel
theorem dX6_settle_6 : decode cX6_settle 6 = .ok (.istore_n 1, 1) := by decide +kernel
theorem dX6_settle_7 : decode cX6_settle 7 = .ok (.iconst 0, 1) := by decide +kernel
theorem dX6_settle_8 : decode cX6_settle 8 = .ok (.istore_n 2, 1) := by decide +kernel
theorem dX6_settle_9 : decode cX6_settle 9 = .ok (.iload_n 2, 1) := by decide +kernel
theorem dX6_settle_10 : decode cX6_settle 10 = .ok (.bipush 16, 2) := by decide +kernel
theorem dX6_settle_12 : decode cX6_settle 12 = .ok (.if_icmp .ge 48, 3) := by decide +kernel
theorem dX6_settle_15 : decode cX6_settle 15 = .ok (.aload_n 0, 1) := by decide +kernel
theorem dX6_settle_16 : decode cX6_settle 16 = .ok (.iload_n 2, 1) := by decide +kernel
theorem dX6_settle_17 : decode cX6_settle 17 = .ok (.iconst 4, 1) := by decide +kernel
theorem dX6_settle_18 : decode cX6_settle 18 = .ok (.idiv, 1) := by decide +kernel
theorem dX6_settle_19 : decode cX6_settle 19 = .ok (.iload_n 2, 1) := by decide +kernel
theorem dX6_settle_20 : decode cX6_settle 20 = .ok (.iconst 4, 1) := by decide +kernel
theorem dX6_settle_21 : decode cX6_settle 21 = .ok (.irem, 1) := by decide +kernel
theorem dX6_settle_22 : decode cX6_settle 22 = .ok (.invokevirtual 128, 3) := by decide +kernel
theorem dX6_settle_25 : decode cX6_settle 25 = .ok (.istore_n 3, 1) := by decide +kernel
theorem dX6_settle_26 : decode cX6_settle 26 = .ok (.aload_n 0, 1) := by decide +kernel
theorem dX6_settle_27 : decode cX6_settle 27 = .ok (.getfield 25, 3) := by decide +kernel
theorem dX6_settle_30 : decode cX6_settle 30 = .ok (.iload_n 2, 1) := by decide +kernel
theorem dX6_settle_31 : decode cX6_settle 31 = .ok (.iconst 4, 1) := by decide +kernel
theorem dX6_settle_32 : decode cX6_settle 32 = .ok (.idiv, 1) := by decide +kernel
theorem dX6_settle_33 : decode cX6_settle 33 = .ok (.dup2, 1) := by decide +kernel
theorem dX6_settle_34 : decode cX6_settle 34 = .ok (.iaload, 1) := by decide +kernel
theorem dX6_settle_35 : decode cX6_settle 35 = .ok (.iload_n 3, 1) := by decide +kernel
theorem dX6_settle_36 : decode cX6_settle 36 = .ok (.isub, 1) := by decide +kernel
theorem dX6_settle_37 : decode cX6_settle 37 = .ok (.iastore, 1) := by decide +kernel
theorem dX6_settle_38 : decode cX6_settle 38 = .ok (.aload_n 0, 1) := by decide +kernel
theorem dX6_settle_39 : decode cX6_settle 39 = .ok (.getfield 25, 3) := by decide +kernel
theorem dX6_settle_42 : decode cX6_settle 42 = .ok (.iload_n 2, 1) := by decide +kernel
theorem dX6_settle_43 : decode cX6_settle 43 = .ok (.iconst 4, 1) := by decide +kernel
theorem dX6_settle_44 : decode cX6_settle 44 = .ok (.irem, 1) := by decide +kernel
theorem dX6_settle_45 : decode cX6_settle 45 = .ok (.dup2, 1) := by decide +kernel
theorem dX6_settle_46 : decode cX6_settle 46 = .ok (.iaload, 1) := by decide +kernel
theorem dX6_settle_47 : decode cX6_settle 47 = .ok (.iload_n 3, 1) := by decide +kernel
theorem dX6_settle_48 : decode cX6_settle 48 = .ok (.iadd, 1) := by decide +kernel
theorem dX6_settle_49 : decode cX6_settle 49 = .ok (.iastore, 1) := by decide +kernel
theorem dX6_settle_50 : decode cX6_settle 50 = .ok (.iload_n 1, 1) := by decide +kernel
theorem dX6_settle_51 : decode cX6_settle 51 = .ok (.iload_n 3, 1) := by decide +kernel
theorem dX6_settle_52 : decode cX6_settle 52 = .ok (.iadd, 1) := by decide +kernel
theorem dX6_settle_53 : decode cX6_settle 53 = .ok (.istore_n 1, 1) := by decide +kernel
theorem dX6_settle_54 : decode cX6_settle 54 = .ok (.iinc 2 1, 3) := by decide +kernel
theorem dX6_settle_57 : decode cX6_settle 57 = .ok (.goto (-48), 3) := by decide +kernel
theorem dX6_settle_60 : decode cX6_settle 60 = .ok (.iconst 0, 1) := by decide +kernel
theorem dX6_settle_61 : decode cX6_settle 61 = .ok (.istore_n 2, 1) := by decide +kernel
theorem dX6_settle_62 : decode cX6_settle 62 = .ok (.iload_n 2, 1) := by decide +kernel
theorem dX6_settle_63 : decode cX6_settle 63 = .ok (.bipush 16, 2) := by decide +kernel
theorem dX6_settle_65 : decode cX6_settle 65 = .ok (.if_icmp .ge 16, 3) := by decide +kernel
theorem dX6_settle_68 : decode cX6_settle 68 = .ok (.aload_n 0, 1) := by decide +kernel
theorem dX6_settle_69 : decode cX6_settle 69 = .ok (.getfield 28, 3) := by decide +kernel
theorem dX6_settle_72 : decode cX6_settle 72 = .ok (.iload_n 2, 1) := by decide +kernel
theorem dX6_settle_73 : decode cX6_settle 73 = .ok (.iconst 0, 1) := by decide +kernel
theorem dX6_settle_74 : decode cX6_settle 74 = .ok (.iastore, 1) := by decide +kernel
theorem dX6_settle_75 : decode cX6_settle 75 = .ok (.iinc 2 1, 3) := by decide +kernel
theorem dX6_settle_78 : decode cX6_settle 78 = .ok (.goto (-16), 3) := by decide +kernel
theorem dX6_settle_81 : decode cX6_settle 81 = .ok (.iload_n 1, 1) := by decide +kernel
theorem dX6_settle_82 : decode cX6_settle 82 = .ok (.ireturn, 1) := by decide +kernel
theorem dX6_today_0 : decode cX6_today 0 = .ok (.aload_n 0, 1) := by decide +kernel
theorem dX6_today_1 : decode cX6_today 1 = .ok (.iconst 0, 1) := by decide +kernel
theorem dX6_today_2 : decode cX6_today 2 = .ok (.putfield 65, 3) := by decide +kernel
theorem dX6_today_5 : decode cX6_today 5 = .ok (.aload_n 0, 1) := by decide +kernel
theorem dX6_today_6 : decode cX6_today 6 = .ok (.getfield 88, 3) := by decide +kernel
theorem dX6_today_9 : decode cX6_today 9 = .ok (.ireturn, 1) := by decide +kernel
theorem dX6_bookings_0 : decode cX6_bookings 0 = .ok (.aload_n 0, 1) := by decide +kernel
theorem dX6_bookings_1 : decode cX6_bookings 1 = .ok (.iconst 0, 1) := by decide +kernel
theorem dX6_bookings_2 : decode cX6_bookings 2 = .ok (.putfield 65, 3) := by decide +kernel
theorem dX6_bookings_5 : decode cX6_bookings 5 = .ok (.aload_n 0, 1) := by decide +kernel
theorem dX6_bookings_6 : decode cX6_bookings 6 = .ok (.getfield 94, 3) := by decide +kernel
theorem dX6_bookings_9 : decode cX6_bookings 9 = .ok (.ireturn, 1) := by decide +kernel
set_option maxRecDepth 20000 in
theorem ggX6_free_X6_isRoom : GoodIn wsX6_free wsX6_isRoom := goodIn_r _ [6, 7, 8, 5, 9, 10, 11, 12] (by decide +kernel) (by decide +kernel)
set_option maxRecDepth 20000 in
theorem gX6_free_X6_isRoom : GoodIn wsX6_free (va_wsS RX6 77 yX6_isRoom wsX6_isRoom) := goodIn_app (goodIn_of _ (by decide +kernel)) ggX6_free_X6_isRoom
set_option maxRecDepth 20000 in
theorem ggX6_free_X6_isFine : GoodIn wsX6_free wsX6_isFine := goodIn_r _ [16, 17, 18, 19, 20, 21, 22, 23, 24, 25, 26, 27, 28, 29, 30, 31, 32, 33, 34, 35, 36, 37, 38, 39, 40, 41] (by decide +kernel) (by decide +kernel)
set_option maxRecDepth 20000 in
theorem gX6_free_X6_isFine : GoodIn wsX6_free (wsV RX6 81 RX6 yX6_isFine wsX6_isFine) := goodIn_app (goodIn_of _ (by decide +kernel)) ggX6_free_X6_isFine
theorem dX6_free_0 : decode cX6_free 0 = .ok (.aload_n 0, 1) := by decide +kernel
theorem dX6_free_1 : decode cX6_free 1 = .ok (.iload_n 1, 1) := by decide +kernel
theorem dX6_free_2 : decode cX6_free 2 = .ok (.iload_n 2, 1) := by decide +kernel
theorem dX6_free_3 : decode cX6_free 3 = .ok (.invokestatic 77, 3) := by decide +kernel
theorem dX6_free_6 : decode cX6_free 6 = .ok (.ifCond .eq 7, 3) := by decide +kernel
theorem dX6_free_9 : decode cX6_free 9 = .ok (.iconst 0, 1) := by decide +kernel
theorem dX6_free_10 : decode cX6_free 10 = .ok (.goto 4, 3) := by decide +kernel
theorem dX6_free_13 : decode cX6_free 13 = .ok (.iconst 1, 1) := by decide +kernel
theorem dX6_free_14 : decode cX6_free 14 = .ok (.invokevirtual 81, 3) := by decide +kernel
theorem dX6_free_17 : decode cX6_free 17 = .ok (.ifCond .ne 5, 3) := by decide +kernel
theorem dX6_free_20 : decode cX6_free 20 = .ok (.iconst 0, 1) := by decide +kernel
theorem dX6_free_21 : decode cX6_free 21 = .ok (.ireturn, 1) := by decide +kernel
theorem dX6_free_22 : decode cX6_free 22 = .ok (.aload_n 0, 1) := by decide +kernel
theorem dX6_free_23 : decode cX6_free 23 = .ok (.getfield 7, 3) := by decide +kernel
theorem dX6_free_26 : decode cX6_free 26 = .ok (.iconst 2, 1) := by decide +kernel
theorem dX6_free_27 : decode cX6_free 27 = .ok (.iload_n 1, 1) := by decide +kernel
theorem dX6_free_28 : decode cX6_free 28 = .ok (.imul, 1) := by decide +kernel
theorem dX6_free_29 : decode cX6_free 29 = .ok (.iload_n 2, 1) := by decide +kernel
theorem dX6_free_30 : decode cX6_free 30 = .ok (.iadd, 1) := by decide +kernel
theorem dX6_free_31 : decode cX6_free 31 = .ok (.iaload, 1) := by decide +kernel
theorem dX6_free_32 : decode cX6_free 32 = .ok (.aload_n 0, 1) := by decide +kernel
theorem dX6_free_33 : decode cX6_free 33 = .ok (.getfield 16, 3) := by decide +kernel
theorem dX6_free_36 : decode cX6_free 36 = .ok (.iconst 2, 1) := by decide +kernel
theorem dX6_free_37 : decode cX6_free 37 = .ok (.iload_n 1, 1) := by decide +kernel
theorem dX6_free_38 : decode cX6_free 38 = .ok (.imul, 1) := by decide +kernel
theorem dX6_free_39 : decode cX6_free 39 = .ok (.iload_n 2, 1) := by decide +kernel
theorem dX6_free_40 : decode cX6_free 40 = .ok (.iadd, 1) := by decide +kernel
theorem dX6_free_41 : decode cX6_free 41 = .ok (.iaload, 1) := by decide +kernel
theorem dX6_free_42 : decode cX6_free 42 = .ok (.isub, 1) := by decide +kernel
theorem dX6_free_43 : decode cX6_free 43 = .ok (.istore_n 3, 1) := by decide +kernel
theorem dX6_free_44 : decode cX6_free 44 = .ok (.iload_n 3, 1) := by decide +kernel
theorem dX6_free_45 : decode cX6_free 45 = .ok (.ifCond .le 7, 3) := by decide +kernel
theorem dX6_free_48 : decode cX6_free 48 = .ok (.iload_n 3, 1) := by decide +kernel
theorem dX6_free_49 : decode cX6_free 49 = .ok (.goto 4, 3) := by decide +kernel
theorem dX6_free_52 : decode cX6_free 52 = .ok (.iconst 0, 1) := by decide +kernel
theorem dX6_free_53 : decode cX6_free 53 = .ok (.ireturn, 1) := by decide +kernel
set_option maxRecDepth 20000 in
theorem ggX6_taken_X6_isRoom : GoodIn wsX6_taken wsX6_isRoom := goodIn_r _ [5, 6, 7, 4, 8, 9, 10, 11] (by decide +kernel) (by decide +kernel)
set_option maxRecDepth 20000 in
theorem gX6_taken_X6_isRoom : GoodIn wsX6_taken (va_wsS RX6 77 yX6_isRoom wsX6_isRoom) := goodIn_app (goodIn_of _ (by decide +kernel)) ggX6_taken_X6_isRoom
set_option maxRecDepth 20000 in
theorem ggX6_taken_X6_isFine : GoodIn wsX6_taken wsX6_isFine := goodIn_r _ [15, 16, 17, 18, 19, 20, 21, 22, 23, 24, 25, 26, 27, 28, 29, 30, 31, 32, 33, 34, 35, 36, 37, 38, 39, 40] (by decide +kernel) (by decide +kernel)
set_option maxRecDepth 20000 in
theorem gX6_taken_X6_isFine : GoodIn wsX6_taken (wsV RX6 81 RX6 yX6_isFine wsX6_isFine) := goodIn_app (goodIn_of _ (by decide +kernel)) ggX6_taken_X6_isFine
theorem dX6_taken_0 : decode cX6_taken 0 = .ok (.aload_n 0, 1) := by decide +kernel
theorem dX6_taken_1 : decode cX6_taken 1 = .ok (.iload_n 1, 1) := by decide +kernel
theorem dX6_taken_2 : decode cX6_taken 2 = .ok (.iload_n 2, 1) := by decide +kernel
theorem dX6_taken_3 : decode cX6_taken 3 = .ok (.invokestatic 77, 3) := by decide +kernel
theorem dX6_taken_6 : decode cX6_taken 6 = .ok (.ifCond .eq 7, 3) := by decide +kernel
theorem dX6_taken_9 : decode cX6_taken 9 = .ok (.iconst 0, 1) := by decide +kernel
theorem dX6_taken_10 : decode cX6_taken 10 = .ok (.goto 4, 3) := by decide +kernel
theorem dX6_taken_13 : decode cX6_taken 13 = .ok (.iconst 1, 1) := by decide +kernel
theorem dX6_taken_14 : decode cX6_taken 14 = .ok (.invokevirtual 81, 3) := by decide +kernel
theorem dX6_taken_17 : decode cX6_taken 17 = .ok (.ifCond .eq 16, 3) := by decide +kernel
theorem dX6_taken_20 : decode cX6_taken 20 = .ok (.aload_n 0, 1) := by decide +kernel
theorem dX6_taken_21 : decode cX6_taken 21 = .ok (.getfield 16, 3) := by decide +kernel
theorem dX6_taken_24 : decode cX6_taken 24 = .ok (.iconst 2, 1) := by decide +kernel
theorem dX6_taken_25 : decode cX6_taken 25 = .ok (.iload_n 1, 1) := by decide +kernel
theorem dX6_taken_26 : decode cX6_taken 26 = .ok (.imul, 1) := by decide +kernel
theorem dX6_taken_27 : decode cX6_taken 27 = .ok (.iload_n 2, 1) := by decide +kernel
theorem dX6_taken_28 : decode cX6_taken 28 = .ok (.iadd, 1) := by decide +kernel
theorem dX6_taken_29 : decode cX6_taken 29 = .ok (.iaload, 1) := by decide +kernel
theorem dX6_taken_30 : decode cX6_taken 30 = .ok (.goto 4, 3) := by decide +kernel
theorem dX6_taken_33 : decode cX6_taken 33 = .ok (.iconst 0, 1) := by decide +kernel
theorem dX6_taken_34 : decode cX6_taken 34 = .ok (.ireturn, 1) := by decide +kernel
set_option maxRecDepth 20000 in
theorem ggX6_takenByBookings_X6_isRoom : GoodIn wsX6_takenByBookings wsX6_isRoom := goodIn_r _ [9, 10, 11, 8, 12, 13, 14, 15] (by decide +kernel) (by decide +kernel)
set_option maxRecDepth 20000 in
theorem gX6_takenByBookings_X6_isRoom : GoodIn wsX6_takenByBookings (va_wsS RX6 77 yX6_isRoom wsX6_isRoom) := goodIn_app (goodIn_of _ (by decide +kernel)) ggX6_takenByBookings_X6_isRoom
set_option maxRecDepth 20000 in
theorem ggX6_takenByBookings_X6_isFine : GoodIn wsX6_takenByBookings wsX6_isFine := goodIn_r _ [19, 20, 21, 22, 23, 24, 25, 26, 27, 28, 29, 30, 31, 32, 33, 34, 35, 36, 37, 38, 39, 40, 41, 42, 43, 44] (by decide +kernel) (by decide +kernel)
set_option maxRecDepth 20000 in
theorem gX6_takenByBookings_X6_isFine : GoodIn wsX6_takenByBookings (wsV RX6 81 RX6 yX6_isFine wsX6_isFine) := goodIn_app (goodIn_of _ (by decide +kernel)) ggX6_takenByBookings_X6_isFine
theorem dX6_takenByBookings_0 : decode cX6_takenByBookings 0 = .ok (.iconst 0, 1) := by decide +kernel
theorem dX6_takenByBookings_1 : decode cX6_takenByBookings 1 = .ok (.istore_n 3, 1) := by decide +kernel
theorem dX6_takenByBookings_2 : decode cX6_takenByBookings 2 = .ok (.aload_n 0, 1) := by decide +kernel
theorem dX6_takenByBookings_3 : decode cX6_takenByBookings 3 = .ok (.iload_n 1, 1) := by decide +kernel
theorem dX6_takenByBookings_4 : decode cX6_takenByBookings 4 = .ok (.iload_n 2, 1) := by decide +kernel
theorem dX6_takenByBookings_5 : decode cX6_takenByBookings 5 = .ok (.invokestatic 77, 3) := by decide +kernel
theorem dX6_takenByBookings_8 : decode cX6_takenByBookings 8 = .ok (.ifCond .eq 7, 3) := by decide +kernel
theorem dX6_takenByBookings_11 : decode cX6_takenByBookings 11 = .ok (.iconst 0, 1) := by decide +kernel
theorem dX6_takenByBookings_12 : decode cX6_takenByBookings 12 = .ok (.goto 4, 3) := by decide +kernel
theorem dX6_takenByBookings_15 : decode cX6_takenByBookings 15 = .ok (.iconst 1, 1) := by decide +kernel
theorem dX6_takenByBookings_16 : decode cX6_takenByBookings 16 = .ok (.invokevirtual 81, 3) := by decide +kernel
theorem dX6_takenByBookings_19 : decode cX6_takenByBookings 19 = .ok (.ifCond .eq 65, 3) := by decide +kernel
theorem dX6_takenByBookings_22 : decode cX6_takenByBookings 22 = .ok (.iconst 0, 1) := by decide +kernel
theorem dX6_takenByBookings_23 : decode cX6_takenByBookings 23 = .ok (.istore 4, 2) := by decide +kernel
theorem dX6_takenByBookings_25 : decode cX6_takenByBookings 25 = .ok (.iload 4, 2) := by decide +kernel
theorem dX6_takenByBookings_27 : decode cX6_takenByBookings 27 = .ok (.aload_n 0, 1) := by decide +kernel
theorem dX6_takenByBookings_28 : decode cX6_takenByBookings 28 = .ok (.getfield 94, 3) := by decide +kernel
theorem dX6_takenByBookings_31 : decode cX6_takenByBookings 31 = .ok (.if_icmp .ge 53, 3) := by decide +kernel
theorem dX6_takenByBookings_34 : decode cX6_takenByBookings 34 = .ok (.iload_n 3, 1) := by decide +kernel
theorem dX6_takenByBookings_35 : decode cX6_takenByBookings 35 = .ok (.aload_n 0, 1) := by decide +kernel
theorem dX6_takenByBookings_36 : decode cX6_takenByBookings 36 = .ok (.getfield 46, 3) := by decide +kernel
theorem dX6_takenByBookings_39 : decode cX6_takenByBookings 39 = .ok (.iload 4, 2) := by decide +kernel
theorem dX6_takenByBookings_41 : decode cX6_takenByBookings 41 = .ok (.iaload, 1) := by decide +kernel
theorem dX6_takenByBookings_42 : decode cX6_takenByBookings 42 = .ok (.aload_n 0, 1) := by decide +kernel
theorem dX6_takenByBookings_43 : decode cX6_takenByBookings 43 = .ok (.getfield 88, 3) := by decide +kernel
theorem dX6_takenByBookings_46 : decode cX6_takenByBookings 46 = .ok (.if_icmp .ne 29, 3) := by decide +kernel
theorem dX6_takenByBookings_49 : decode cX6_takenByBookings 49 = .ok (.aload_n 0, 1) := by decide +kernel
theorem dX6_takenByBookings_50 : decode cX6_takenByBookings 50 = .ok (.getfield 53, 3) := by decide +kernel
theorem dX6_takenByBookings_53 : decode cX6_takenByBookings 53 = .ok (.iload 4, 2) := by decide +kernel
theorem dX6_takenByBookings_55 : decode cX6_takenByBookings 55 = .ok (.iaload, 1) := by decide +kernel
theorem dX6_takenByBookings_56 : decode cX6_takenByBookings 56 = .ok (.iload_n 1, 1) := by decide +kernel
theorem dX6_takenByBookings_57 : decode cX6_takenByBookings 57 = .ok (.if_icmp .ne 18, 3) := by decide +kernel
theorem dX6_takenByBookings_60 : decode cX6_takenByBookings 60 = .ok (.aload_n 0, 1) := by decide +kernel
theorem dX6_takenByBookings_61 : decode cX6_takenByBookings 61 = .ok (.getfield 43, 3) := by decide +kernel
theorem dX6_takenByBookings_64 : decode cX6_takenByBookings 64 = .ok (.iload 4, 2) := by decide +kernel
theorem dX6_takenByBookings_66 : decode cX6_takenByBookings 66 = .ok (.iaload, 1) := by decide +kernel
theorem dX6_takenByBookings_67 : decode cX6_takenByBookings 67 = .ok (.iload_n 2, 1) := by decide +kernel
theorem dX6_takenByBookings_68 : decode cX6_takenByBookings 68 = .ok (.if_icmp .ne 7, 3) := by decide +kernel
theorem dX6_takenByBookings_71 : decode cX6_takenByBookings 71 = .ok (.iconst 1, 1) := by decide +kernel
theorem dX6_takenByBookings_72 : decode cX6_takenByBookings 72 = .ok (.goto 4, 3) := by decide +kernel
theorem dX6_takenByBookings_75 : decode cX6_takenByBookings 75 = .ok (.iconst 0, 1) := by decide +kernel
theorem dX6_takenByBookings_76 : decode cX6_takenByBookings 76 = .ok (.iadd, 1) := by decide +kernel
theorem dX6_takenByBookings_77 : decode cX6_takenByBookings 77 = .ok (.istore_n 3, 1) := by decide +kernel
theorem dX6_takenByBookings_78 : decode cX6_takenByBookings 78 = .ok (.iinc 4 1, 3) := by decide +kernel
theorem dX6_takenByBookings_81 : decode cX6_takenByBookings 81 = .ok (.goto (-56), 3) := by decide +kernel
theorem dX6_takenByBookings_84 : decode cX6_takenByBookings 84 = .ok (.iload_n 3, 1) := by decide +kernel
theorem dX6_takenByBookings_85 : decode cX6_takenByBookings 85 = .ok (.ireturn, 1) := by decide +kernel
set_option maxRecDepth 20000 in
theorem ggX6_extra_X6_isInn : GoodIn wsX6_extra wsX6_isInn := goodIn_r _ [4, 5, 6, 3, 7] (by decide +kernel) (by decide +kernel)
set_option maxRecDepth 20000 in
theorem gX6_extra_X6_isInn : GoodIn wsX6_extra (va_wsS RX6 73 yX6_isInn wsX6_isInn) := goodIn_app (goodIn_of _ (by decide +kernel)) ggX6_extra_X6_isInn
set_option maxRecDepth 20000 in
theorem ggX6_extra_X6_isFine : GoodIn wsX6_extra wsX6_isFine := goodIn_r _ [11, 12, 19, 20, 21, 22, 23, 24, 25, 26, 27, 28, 29, 30, 31, 32, 33, 34, 35, 36, 37, 38, 39, 40, 41, 42] (by decide +kernel) (by decide +kernel)
set_option maxRecDepth 20000 in
theorem gX6_extra_X6_isFine : GoodIn wsX6_extra (wsV RX6 81 RX6 yX6_isFine wsX6_isFine) := goodIn_app (goodIn_of _ (by decide +kernel)) ggX6_extra_X6_isFine
set_option maxRecDepth 20000 in
theorem ggX6_extra_X6_extraOf : GoodIn wsX6_extra wsX6_extraOf := goodIn_r _ [16, 17, 18, 19, 20, 21, 22, 23, 24, 25, 26, 27, 28, 29, 30, 31, 32, 33, 34, 35, 36, 37, 38, 39, 40, 41, 42] (by decide +kernel) (by decide +kernel)
set_option maxRecDepth 20000 in
theorem gX6_extra_X6_extraOf : GoodIn wsX6_extra (wsV RX6 97 RX6 yX6_extraOf wsX6_extraOf) := goodIn_app (goodIn_of _ (by decide +kernel)) ggX6_extra_X6_extraOf
theorem dX6_extra_0 : decode cX6_extra 0 = .ok (.aload_n 0, 1) := by decide +kernel
theorem dX6_extra_1 : decode cX6_extra 1 = .ok (.iload_n 1, 1) := by decide +kernel
theorem dX6_extra_2 : decode cX6_extra 2 = .ok (.invokestatic 73, 3) := by decide +kernel
theorem dX6_extra_5 : decode cX6_extra 5 = .ok (.ifCond .eq 7, 3) := by decide +kernel
theorem dX6_extra_8 : decode cX6_extra 8 = .ok (.iconst 0, 1) := by decide +kernel
theorem dX6_extra_9 : decode cX6_extra 9 = .ok (.goto 4, 3) := by decide +kernel
theorem dX6_extra_12 : decode cX6_extra 12 = .ok (.iconst 1, 1) := by decide +kernel
theorem dX6_extra_13 : decode cX6_extra 13 = .ok (.invokevirtual 81, 3) := by decide +kernel
theorem dX6_extra_16 : decode cX6_extra 16 = .ok (.ifCond .eq 11, 3) := by decide +kernel
theorem dX6_extra_19 : decode cX6_extra 19 = .ok (.aload_n 0, 1) := by decide +kernel
theorem dX6_extra_20 : decode cX6_extra 20 = .ok (.iload_n 1, 1) := by decide +kernel
theorem dX6_extra_21 : decode cX6_extra 21 = .ok (.invokevirtual 97, 3) := by decide +kernel
theorem dX6_extra_24 : decode cX6_extra 24 = .ok (.goto 4, 3) := by decide +kernel
theorem dX6_extra_27 : decode cX6_extra 27 = .ok (.iconst 0, 1) := by decide +kernel
theorem dX6_extra_28 : decode cX6_extra 28 = .ok (.ireturn, 1) := by decide +kernel
set_option maxRecDepth 20000 in
theorem ggX6_clean_X6_isInn : GoodIn wsX6_clean wsX6_isInn := goodIn_r _ [5, 6, 7, 4, 8] (by decide +kernel) (by decide +kernel)
set_option maxRecDepth 20000 in
theorem gX6_clean_X6_isInn : GoodIn wsX6_clean (va_wsS RX6 73 yX6_isInn wsX6_isInn) := goodIn_app (goodIn_of _ (by decide +kernel)) ggX6_clean_X6_isInn
set_option maxRecDepth 20000 in
theorem ggX6_clean_X6_isFine : GoodIn wsX6_clean wsX6_isFine := goodIn_r _ [12, 13, 14, 15, 16, 17, 18, 19, 20, 21, 22, 23, 24, 25, 26, 27, 28, 29, 30, 31, 32, 33, 34, 35, 36, 37] (by decide +kernel) (by decide +kernel)
set_option maxRecDepth 20000 in
theorem gX6_clean_X6_isFine : GoodIn wsX6_clean (wsV RX6 81 RX6 yX6_isFine wsX6_isFine) := goodIn_app (goodIn_of _ (by decide +kernel)) ggX6_clean_X6_isFine
theorem dX6_clean_0 : decode cX6_clean 0 = .ok (.aload_n 0, 1) := by decide +kernel
theorem dX6_clean_1 : decode cX6_clean 1 = .ok (.iload_n 1, 1) := by decide +kernel
theorem dX6_clean_2 : decode cX6_clean 2 = .ok (.invokestatic 73, 3) := by decide +kernel
theorem dX6_clean_5 : decode cX6_clean 5 = .ok (.ifCond .eq 7, 3) := by decide +kernel
theorem dX6_clean_8 : decode cX6_clean 8 = .ok (.iconst 0, 1) := by decide +kernel
theorem dX6_clean_9 : decode cX6_clean 9 = .ok (.goto 4, 3) := by decide +kernel
theorem dX6_clean_12 : decode cX6_clean 12 = .ok (.iconst 1, 1) := by decide +kernel
theorem dX6_clean_13 : decode cX6_clean 13 = .ok (.invokevirtual 81, 3) := by decide +kernel
theorem dX6_clean_16 : decode cX6_clean 16 = .ok (.ifCond .eq 12, 3) := by decide +kernel
theorem dX6_clean_19 : decode cX6_clean 19 = .ok (.aload_n 0, 1) := by decide +kernel
theorem dX6_clean_20 : decode cX6_clean 20 = .ok (.getfield 19, 3) := by decide +kernel
theorem dX6_clean_23 : decode cX6_clean 23 = .ok (.iload_n 1, 1) := by decide +kernel
theorem dX6_clean_24 : decode cX6_clean 24 = .ok (.iaload, 1) := by decide +kernel
theorem dX6_clean_25 : decode cX6_clean 25 = .ok (.goto 4, 3) := by decide +kernel
theorem dX6_clean_28 : decode cX6_clean 28 = .ok (.iconst 0, 1) := by decide +kernel
theorem dX6_clean_29 : decode cX6_clean 29 = .ok (.ireturn, 1) := by decide +kernel
set_option maxRecDepth 20000 in
theorem ggX6_away_X6_isInn : GoodIn wsX6_away wsX6_isInn := goodIn_r _ [7, 8, 9, 6, 10] (by decide +kernel) (by decide +kernel)
set_option maxRecDepth 20000 in
theorem gX6_away_X6_isInn : GoodIn wsX6_away (va_wsS RX6 73 yX6_isInn wsX6_isInn) := goodIn_app (goodIn_of _ (by decide +kernel)) ggX6_away_X6_isInn
set_option maxRecDepth 20000 in
theorem ggX6_away_X6_isFine : GoodIn wsX6_away wsX6_isFine := goodIn_r _ [14, 15, 16, 17, 18, 19, 20, 21, 22, 23, 24, 25, 26, 27, 28, 29, 30, 31, 32, 33, 34, 35, 36, 37, 38, 39] (by decide +kernel) (by decide +kernel)
set_option maxRecDepth 20000 in
theorem gX6_away_X6_isFine : GoodIn wsX6_away (wsV RX6 81 RX6 yX6_isFine wsX6_isFine) := goodIn_app (goodIn_of _ (by decide +kernel)) ggX6_away_X6_isFine
theorem dX6_away_0 : decode cX6_away 0 = .ok (.aload_n 0, 1) := by decide +kernel
theorem dX6_away_1 : decode cX6_away 1 = .ok (.iload_n 1, 1) := by decide +kernel
theorem dX6_away_2 : decode cX6_away 2 = .ok (.invokestatic 73, 3) := by decide +kernel
theorem dX6_away_5 : decode cX6_away 5 = .ok (.ifCond .eq 7, 3) := by decide +kernel
theorem dX6_away_8 : decode cX6_away 8 = .ok (.iconst 0, 1) := by decide +kernel
theorem dX6_away_9 : decode cX6_away 9 = .ok (.goto 4, 3) := by decide +kernel
theorem dX6_away_12 : decode cX6_away 12 = .ok (.iconst 1, 1) := by decide +kernel
theorem dX6_away_13 : decode cX6_away 13 = .ok (.invokevirtual 81, 3) := by decide +kernel
theorem dX6_away_16 : decode cX6_away 16 = .ok (.ifCond .ne 5, 3) := by decide +kernel
theorem dX6_away_19 : decode cX6_away 19 = .ok (.iconst 0, 1) := by decide +kernel
theorem dX6_away_20 : decode cX6_away 20 = .ok (.ireturn, 1) := by decide +kernel
theorem dX6_away_21 : decode cX6_away 21 = .ok (.aload_n 0, 1) := by decide +kernel
theorem dX6_away_22 : decode cX6_away 22 = .ok (.getfield 22, 3) := by decide +kernel
theorem dX6_away_25 : decode cX6_away 25 = .ok (.iload_n 1, 1) := by decide +kernel
theorem dX6_away_26 : decode cX6_away 26 = .ok (.iaload, 1) := by decide +kernel
theorem dX6_away_27 : decode cX6_away 27 = .ok (.istore_n 2, 1) := by decide +kernel
theorem dX6_away_28 : decode cX6_away 28 = .ok (.iconst 0, 1) := by decide +kernel
theorem dX6_away_29 : decode cX6_away 29 = .ok (.istore_n 3, 1) := by decide +kernel
theorem dX6_away_30 : decode cX6_away 30 = .ok (.iload_n 3, 1) := by decide +kernel
theorem dX6_away_31 : decode cX6_away 31 = .ok (.aload_n 0, 1) := by decide +kernel
theorem dX6_away_32 : decode cX6_away 32 = .ok (.getfield 88, 3) := by decide +kernel
theorem dX6_away_35 : decode cX6_away 35 = .ok (.if_icmp .ge 22, 3) := by decide +kernel
theorem dX6_away_38 : decode cX6_away 38 = .ok (.iload_n 2, 1) := by decide +kernel
theorem dX6_away_39 : decode cX6_away 39 = .ok (.aload_n 0, 1) := by decide +kernel
theorem dX6_away_40 : decode cX6_away 40 = .ok (.getfield 31, 3) := by decide +kernel
theorem dX6_away_43 : decode cX6_away 43 = .ok (.iconst 4, 1) := by decide +kernel
theorem dX6_away_44 : decode cX6_away 44 = .ok (.iload_n 3, 1) := by decide +kernel
theorem dX6_away_45 : decode cX6_away 45 = .ok (.imul, 1) := by decide +kernel
theorem dX6_away_46 : decode cX6_away 46 = .ok (.iload_n 1, 1) := by decide +kernel
theorem dX6_away_47 : decode cX6_away 47 = .ok (.iadd, 1) := by decide +kernel
theorem dX6_away_48 : decode cX6_away 48 = .ok (.iaload, 1) := by decide +kernel
theorem dX6_away_49 : decode cX6_away 49 = .ok (.iadd, 1) := by decide +kernel
theorem dX6_away_50 : decode cX6_away 50 = .ok (.istore_n 2, 1) := by decide +kernel
theorem dX6_away_51 : decode cX6_away 51 = .ok (.iinc 3 1, 3) := by decide +kernel
theorem dX6_away_54 : decode cX6_away 54 = .ok (.goto (-24), 3) := by decide +kernel
theorem dX6_away_57 : decode cX6_away 57 = .ok (.iload_n 2, 1) := by decide +kernel
theorem dX6_away_58 : decode cX6_away 58 = .ok (.ireturn, 1) := by decide +kernel
set_option maxRecDepth 20000 in
theorem ggX6_sleeps_X6_in : GoodIn wsX6_sleeps wsX6_in := goodIn_r _ [6] (by decide +kernel) (by decide +kernel)
set_option maxRecDepth 20000 in
theorem gX6_sleeps_X6_in : GoodIn wsX6_sleeps (va_wsS RX6 69 yX6_in wsX6_in) := goodIn_app (goodIn_of _ (by decide +kernel)) ggX6_sleeps_X6_in
set_option maxRecDepth 20000 in
theorem ggX6_sleeps_X6_isFine : GoodIn wsX6_sleeps wsX6_isFine := goodIn_r _ [10, 11, 12, 13, 14, 15, 16, 17, 18, 19, 20, 21, 22, 23, 24, 25, 26, 27, 28, 29, 30, 31, 32, 33, 34, 35] (by decide +kernel) (by decide +kernel)
set_option maxRecDepth 20000 in
theorem gX6_sleeps_X6_isFine : GoodIn wsX6_sleeps (wsV RX6 81 RX6 yX6_isFine wsX6_isFine) := goodIn_app (goodIn_of _ (by decide +kernel)) ggX6_sleeps_X6_isFine
theorem dX6_sleeps_0 : decode cX6_sleeps 0 = .ok (.aload_n 0, 1) := by decide +kernel
theorem dX6_sleeps_1 : decode cX6_sleeps 1 = .ok (.iload_n 1, 1) := by decide +kernel
theorem dX6_sleeps_2 : decode cX6_sleeps 2 = .ok (.iconst 0, 1) := by decide +kernel
theorem dX6_sleeps_3 : decode cX6_sleeps 3 = .ok (.aload_n 0, 1) := by decide +kernel
theorem dX6_sleeps_4 : decode cX6_sleeps 4 = .ok (.getfield 94, 3) := by decide +kernel
theorem dX6_sleeps_7 : decode cX6_sleeps 7 = .ok (.iconst 1, 1) := by decide +kernel
theorem dX6_sleeps_8 : decode cX6_sleeps 8 = .ok (.isub, 1) := by decide +kernel
theorem dX6_sleeps_9 : decode cX6_sleeps 9 = .ok (.invokestatic 69, 3) := by decide +kernel
theorem dX6_sleeps_12 : decode cX6_sleeps 12 = .ok (.ifCond .eq 7, 3) := by decide +kernel
theorem dX6_sleeps_15 : decode cX6_sleeps 15 = .ok (.iconst 0, 1) := by decide +kernel
theorem dX6_sleeps_16 : decode cX6_sleeps 16 = .ok (.goto 4, 3) := by decide +kernel
theorem dX6_sleeps_19 : decode cX6_sleeps 19 = .ok (.iconst 1, 1) := by decide +kernel
theorem dX6_sleeps_20 : decode cX6_sleeps 20 = .ok (.invokevirtual 81, 3) := by decide +kernel
theorem dX6_sleeps_23 : decode cX6_sleeps 23 = .ok (.ifCond .eq 12, 3) := by decide +kernel
theorem dX6_sleeps_26 : decode cX6_sleeps 26 = .ok (.aload_n 0, 1) := by decide +kernel
theorem dX6_sleeps_27 : decode cX6_sleeps 27 = .ok (.getfield 53, 3) := by decide +kernel
theorem dX6_sleeps_30 : decode cX6_sleeps 30 = .ok (.iload_n 1, 1) := by decide +kernel
theorem dX6_sleeps_31 : decode cX6_sleeps 31 = .ok (.iaload, 1) := by decide +kernel
theorem dX6_sleeps_32 : decode cX6_sleeps 32 = .ok (.goto 4, 3) := by decide +kernel
theorem dX6_sleeps_35 : decode cX6_sleeps 35 = .ok (.iconst 0, 1) := by decide +kernel
theorem dX6_sleeps_36 : decode cX6_sleeps 36 = .ok (.ireturn, 1) := by decide +kernel
set_option maxRecDepth 20000 in
theorem ggX6_points_X6_isGuest : GoodIn wsX6_points wsX6_isGuest := goodIn_r _ [4, 5, 6, 3, 7] (by decide +kernel) (by decide +kernel)
set_option maxRecDepth 20000 in
theorem gX6_points_X6_isGuest : GoodIn wsX6_points (va_wsS RX6 91 yX6_isGuest wsX6_isGuest) := goodIn_app (goodIn_of _ (by decide +kernel)) ggX6_points_X6_isGuest
set_option maxRecDepth 20000 in
theorem ggX6_points_X6_isFine : GoodIn wsX6_points wsX6_isFine := goodIn_r _ [11, 12, 20, 21, 22, 23, 24, 25, 26, 27, 28, 29, 30, 31, 32, 33, 34, 35, 36, 37, 38, 39, 40, 41, 42, 43] (by decide +kernel) (by decide +kernel)
set_option maxRecDepth 20000 in
theorem gX6_points_X6_isFine : GoodIn wsX6_points (wsV RX6 81 RX6 yX6_isFine wsX6_isFine) := goodIn_app (goodIn_of _ (by decide +kernel)) ggX6_points_X6_isFine
set_option maxRecDepth 20000 in
theorem ggX6_points_X6_pointsOf : GoodIn wsX6_points wsX6_pointsOf := goodIn_r _ [16, 17, 18, 19, 20, 21, 22, 23, 24, 25, 26, 27, 28, 29, 30, 31, 32, 33, 34, 35, 36, 37, 38, 39, 40, 41, 42, 43] (by decide +kernel) (by decide +kernel)
set_option maxRecDepth 20000 in
theorem gX6_points_X6_pointsOf : GoodIn wsX6_points (wsV RX6 125 RX6 yX6_pointsOf wsX6_pointsOf) := goodIn_app (goodIn_of _ (by decide +kernel)) ggX6_points_X6_pointsOf
theorem dX6_points_0 : decode cX6_points 0 = .ok (.aload_n 0, 1) := by decide +kernel
theorem dX6_points_1 : decode cX6_points 1 = .ok (.iload_n 1, 1) := by decide +kernel
theorem dX6_points_2 : decode cX6_points 2 = .ok (.invokestatic 91, 3) := by decide +kernel
theorem dX6_points_5 : decode cX6_points 5 = .ok (.ifCond .eq 7, 3) := by decide +kernel
theorem dX6_points_8 : decode cX6_points 8 = .ok (.iconst 0, 1) := by decide +kernel
theorem dX6_points_9 : decode cX6_points 9 = .ok (.goto 4, 3) := by decide +kernel
theorem dX6_points_12 : decode cX6_points 12 = .ok (.iconst 1, 1) := by decide +kernel
theorem dX6_points_13 : decode cX6_points 13 = .ok (.invokevirtual 81, 3) := by decide +kernel
theorem dX6_points_16 : decode cX6_points 16 = .ok (.ifCond .eq 11, 3) := by decide +kernel
theorem dX6_points_19 : decode cX6_points 19 = .ok (.aload_n 0, 1) := by decide +kernel
theorem dX6_points_20 : decode cX6_points 20 = .ok (.iload_n 1, 1) := by decide +kernel
theorem dX6_points_21 : decode cX6_points 21 = .ok (.invokevirtual 125, 3) := by decide +kernel
theorem dX6_points_24 : decode cX6_points 24 = .ok (.goto 4, 3) := by decide +kernel
theorem dX6_points_27 : decode cX6_points 27 = .ok (.iconst 0, 1) := by decide +kernel
theorem dX6_points_28 : decode cX6_points 28 = .ok (.ireturn, 1) := by decide +kernel
set_option maxRecDepth 20000 in
theorem ggX6_owes_X6_isInn : GoodIn wsX6_owes wsX6_isInn := goodIn_r _ [4, 5, 6, 3, 7] (by decide +kernel) (by decide +kernel)
set_option maxRecDepth 20000 in
theorem gX6_owes_X6_isInn : GoodIn wsX6_owes (va_wsS RX6 73 yX6_isInn wsX6_isInn) := goodIn_app (goodIn_of _ (by decide +kernel)) ggX6_owes_X6_isInn
set_option maxRecDepth 20000 in
theorem ggX6_owes_X6_isFine : GoodIn wsX6_owes wsX6_isFine := goodIn_r _ [11, 12, 18, 19, 20, 21, 22, 23, 24, 25, 26, 27, 28, 29, 30, 31, 32, 33, 34, 35, 36, 37, 38, 39, 40, 41] (by decide +kernel) (by decide +kernel)
set_option maxRecDepth 20000 in
theorem gX6_owes_X6_isFine : GoodIn wsX6_owes (wsV RX6 81 RX6 yX6_isFine wsX6_isFine) := goodIn_app (goodIn_of _ (by decide +kernel)) ggX6_owes_X6_isFine
set_option maxRecDepth 20000 in
theorem ggX6_owes_X6_owed : GoodIn wsX6_owes wsX6_owed := goodIn_r _ [16, 17, 18, 19, 20, 21, 22, 23, 24, 25, 26, 27, 28, 29, 30, 31, 32, 33, 34, 35, 36, 37, 38, 39, 40, 41] (by decide +kernel) (by decide +kernel)
set_option maxRecDepth 20000 in
theorem gX6_owes_X6_owed : GoodIn wsX6_owes (wsV RX6 128 RX6 yX6_owed wsX6_owed) := goodIn_app (goodIn_of _ (by decide +kernel)) ggX6_owes_X6_owed
theorem dX6_owes_0 : decode cX6_owes 0 = .ok (.aload_n 0, 1) := by decide +kernel
theorem dX6_owes_1 : decode cX6_owes 1 = .ok (.iload_n 1, 1) := by decide +kernel
theorem dX6_owes_2 : decode cX6_owes 2 = .ok (.invokestatic 73, 3) := by decide +kernel
theorem dX6_owes_5 : decode cX6_owes 5 = .ok (.ifCond .eq 14, 3) := by decide +kernel
theorem dX6_owes_8 : decode cX6_owes 8 = .ok (.iload_n 2, 1) := by decide +kernel
theorem dX6_owes_9 : decode cX6_owes 9 = .ok (.invokestatic 73, 3) := by decide +kernel
theorem dX6_owes_12 : decode cX6_owes 12 = .ok (.ifCond .eq 7, 3) := by decide +kernel
theorem dX6_owes_15 : decode cX6_owes 15 = .ok (.iconst 0, 1) := by decide +kernel
theorem dX6_owes_16 : decode cX6_owes 16 = .ok (.goto 4, 3) := by decide +kernel
theorem dX6_owes_19 : decode cX6_owes 19 = .ok (.iconst 1, 1) := by decide +kernel
theorem dX6_owes_20 : decode cX6_owes 20 = .ok (.invokevirtual 81, 3) := by decide +kernel
theorem dX6_owes_23 : decode cX6_owes 23 = .ok (.ifCond .eq 12, 3) := by decide +kernel
theorem dX6_owes_26 : decode cX6_owes 26 = .ok (.aload_n 0, 1) := by decide +kernel
theorem dX6_owes_27 : decode cX6_owes 27 = .ok (.iload_n 1, 1) := by decide +kernel
theorem dX6_owes_28 : decode cX6_owes 28 = .ok (.iload_n 2, 1) := by decide +kernel
theorem dX6_owes_29 : decode cX6_owes 29 = .ok (.invokevirtual 128, 3) := by decide +kernel
theorem dX6_owes_32 : decode cX6_owes 32 = .ok (.goto 4, 3) := by decide +kernel
theorem dX6_owes_35 : decode cX6_owes 35 = .ok (.iconst 0, 1) := by decide +kernel
theorem dX6_owes_36 : decode cX6_owes 36 = .ok (.ireturn, 1) := by decide +kernel
set_option maxRecDepth 20000 in
theorem ggX6_purse_X6_isInn : GoodIn wsX6_purse wsX6_isInn := goodIn_r _ [5, 6, 7, 4, 8] (by decide +kernel) (by decide +kernel)
set_option maxRecDepth 20000 in
theorem gX6_purse_X6_isInn : GoodIn wsX6_purse (va_wsS RX6 73 yX6_isInn wsX6_isInn) := goodIn_app (goodIn_of _ (by decide +kernel)) ggX6_purse_X6_isInn
set_option maxRecDepth 20000 in
theorem ggX6_purse_X6_isFine : GoodIn wsX6_purse wsX6_isFine := goodIn_r _ [12, 13, 14, 15, 16, 17, 18, 19, 20, 21, 22, 23, 24, 25, 26, 27, 28, 29, 30, 31, 32, 33, 34, 35, 36, 37] (by decide +kernel) (by decide +kernel)
set_option maxRecDepth 20000 in
theorem gX6_purse_X6_isFine : GoodIn wsX6_purse (wsV RX6 81 RX6 yX6_isFine wsX6_isFine) := goodIn_app (goodIn_of _ (by decide +kernel)) ggX6_purse_X6_isFine
theorem dX6_purse_0 : decode cX6_purse 0 = .ok (.aload_n 0, 1) := by decide +kernel
theorem dX6_purse_1 : decode cX6_purse 1 = .ok (.iload_n 1, 1) := by decide +kernel
theorem dX6_purse_2 : decode cX6_purse 2 = .ok (.invokestatic 73, 3) := by decide +kernel
theorem dX6_purse_5 : decode cX6_purse 5 = .ok (.ifCond .eq 7, 3) := by decide +kernel
theorem dX6_purse_8 : decode cX6_purse 8 = .ok (.iconst 0, 1) := by decide +kernel
theorem dX6_purse_9 : decode cX6_purse 9 = .ok (.goto 4, 3) := by decide +kernel
theorem dX6_purse_12 : decode cX6_purse 12 = .ok (.iconst 1, 1) := by decide +kernel
theorem dX6_purse_13 : decode cX6_purse 13 = .ok (.invokevirtual 81, 3) := by decide +kernel
theorem dX6_purse_16 : decode cX6_purse 16 = .ok (.ifCond .eq 12, 3) := by decide +kernel
theorem dX6_purse_19 : decode cX6_purse 19 = .ok (.aload_n 0, 1) := by decide +kernel
theorem dX6_purse_20 : decode cX6_purse 20 = .ok (.getfield 25, 3) := by decide +kernel
theorem dX6_purse_23 : decode cX6_purse 23 = .ok (.iload_n 1, 1) := by decide +kernel
theorem dX6_purse_24 : decode cX6_purse 24 = .ok (.iaload, 1) := by decide +kernel
theorem dX6_purse_25 : decode cX6_purse 25 = .ok (.goto 4, 3) := by decide +kernel
theorem dX6_purse_28 : decode cX6_purse 28 = .ok (.iconst 0, 1) := by decide +kernel
theorem dX6_purse_29 : decode cX6_purse 29 = .ok (.ireturn, 1) := by decide +kernel
theorem dJ9_abs_0f7a4_0 : decode cJ9_abs_0f7a4 0 = .ok (.iload_n 0, 1) := by decide +kernel
theorem dJ9_abs_0f7a4_1 : decode cJ9_abs_0f7a4 1 = .ok (.ifCond .ge 8, 3) := by decide +kernel
theorem dJ9_abs_0f7a4_4 : decode cJ9_abs_0f7a4 4 = .ok (.iload_n 0, 1) := by decide +kernel
theorem dJ9_abs_0f7a4_5 : decode cJ9_abs_0f7a4 5 = .ok (.ineg, 1) := by decide +kernel
theorem dJ9_abs_0f7a4_6 : decode cJ9_abs_0f7a4 6 = .ok (.goto 4, 3) := by decide +kernel
theorem dJ9_abs_0f7a4_9 : decode cJ9_abs_0f7a4 9 = .ok (.iload_n 0, 1) := by decide +kernel
theorem dJ9_abs_0f7a4_10 : decode cJ9_abs_0f7a4 10 = .ok (.ireturn, 1) := by decide +kernel
theorem dJ9_max_7cf53_0 : decode cJ9_max_7cf53 0 = .ok (.iload_n 0, 1) := by decide +kernel
theorem dJ9_max_7cf53_1 : decode cJ9_max_7cf53 1 = .ok (.iload_n 1, 1) := by decide +kernel
theorem dJ9_max_7cf53_2 : decode cJ9_max_7cf53 2 = .ok (.if_icmp .lt 7, 3) := by decide +kernel
theorem dJ9_max_7cf53_5 : decode cJ9_max_7cf53 5 = .ok (.iload_n 0, 1) := by decide +kernel
theorem dJ9_max_7cf53_6 : decode cJ9_max_7cf53 6 = .ok (.goto 4, 3) := by decide +kernel
theorem dJ9_max_7cf53_9 : decode cJ9_max_7cf53 9 = .ok (.iload_n 1, 1) := by decide +kernel
theorem dJ9_max_7cf53_10 : decode cJ9_max_7cf53 10 = .ok (.ireturn, 1) := by decide +kernel
theorem dJ9_min_7cf53_0 : decode cJ9_min_7cf53 0 = .ok (.iload_n 0, 1) := by decide +kernel
theorem dJ9_min_7cf53_1 : decode cJ9_min_7cf53 1 = .ok (.iload_n 1, 1) := by decide +kernel
theorem dJ9_min_7cf53_2 : decode cJ9_min_7cf53 2 = .ok (.if_icmp .gt 7, 3) := by decide +kernel
theorem dJ9_min_7cf53_5 : decode cJ9_min_7cf53 5 = .ok (.iload_n 0, 1) := by decide +kernel
theorem dJ9_min_7cf53_6 : decode cJ9_min_7cf53 6 = .ok (.goto 4, 3) := by decide +kernel
theorem dJ9_min_7cf53_9 : decode cJ9_min_7cf53 9 = .ok (.iload_n 1, 1) := by decide +kernel
theorem dJ9_min_7cf53_10 : decode cJ9_min_7cf53 10 = .ok (.ireturn, 1) := by decide +kernel
set_option maxRecDepth 20000 in
theorem ggL_setRooms_X5_setRooms : GoodIn wsL_setRooms wsX5_setRooms := goodIn_ca (goodIn_ca (goodIn_r _ [7, 8, 9, 10, 6, 11, 12, 13, 14, 15, 16, 17, 18, 19, 20, 21, 22, 23, 24, 25, 26, 27, 28, 29, 30, 31, 32, 33, 34, 35, 36, 37, 38, 39, 40] (by decide +kernel) (by decide +kernel)) (goodIn_sub (fun _ h => List.mem_cons_of_mem _ (List.mem_append_left _ (List.mem_append_right _ h))) (by decide +kernel))) (goodIn_sub (fun _ h => List.mem_cons_of_mem _ (List.mem_append_right _ h)) (by decide +kernel))
set_option maxRecDepth 20000 in
theorem gL_setRooms_X5_setRooms : GoodIn wsL_setRooms (wsV RL 7 RX5 yX5_setRooms wsX5_setRooms) := goodIn_app (goodIn_of _ (by decide +kernel)) ggL_setRooms_X5_setRooms
theorem dL_setRooms_0 : decode cL_setRooms 0 = .ok (.aload 5, 2) := by decide +kernel
theorem dL_setRooms_2 : decode cL_setRooms 2 = .ok (.iconst 0, 1) := by decide +kernel
theorem dL_setRooms_3 : decode cL_setRooms 3 = .ok (.aload_n 0, 1) := by decide +kernel
theorem dL_setRooms_4 : decode cL_setRooms 4 = .ok (.iload_n 1, 1) := by decide +kernel
theorem dL_setRooms_5 : decode cL_setRooms 5 = .ok (.iload_n 2, 1) := by decide +kernel
theorem dL_setRooms_6 : decode cL_setRooms 6 = .ok (.iload_n 3, 1) := by decide +kernel
theorem dL_setRooms_7 : decode cL_setRooms 7 = .ok (.iload 4, 2) := by decide +kernel
theorem dL_setRooms_9 : decode cL_setRooms 9 = .ok (.invokevirtual 7, 3) := by decide +kernel
theorem dL_setRooms_12 : decode cL_setRooms 12 = .ok (.i2l, 1) := by decide +kernel
theorem dL_setRooms_13 : decode cL_setRooms 13 = .ok (.lastore, 1) := by decide +kernel
theorem dL_setRooms_14 : decode cL_setRooms 14 = .ok (.goto 11, 3) := by decide +kernel
theorem dL_setRooms_17 : decode cL_setRooms 17 = .ok (.astore 6, 2) := by decide +kernel
theorem dL_setRooms_19 : decode cL_setRooms 19 = .ok (.iconst 1, 1) := by decide +kernel
theorem dL_setRooms_20 : decode cL_setRooms 20 = .ok (.ireturn, 1) := by decide +kernel
theorem dL_setRooms_21 : decode cL_setRooms 21 = .ok (.astore 6, 2) := by decide +kernel
theorem dL_setRooms_23 : decode cL_setRooms 23 = .ok (.iconst 2, 1) := by decide +kernel
theorem dL_setRooms_24 : decode cL_setRooms 24 = .ok (.ireturn, 1) := by decide +kernel
theorem dL_setRooms_25 : decode cL_setRooms 25 = .ok (.iconst 0, 1) := by decide +kernel
theorem dL_setRooms_26 : decode cL_setRooms 26 = .ok (.ireturn, 1) := by decide +kernel
set_option maxRecDepth 20000 in
theorem ggL_buyLinen_X5_buyLinen : GoodIn wsL_buyLinen wsX5_buyLinen := goodIn_ca (goodIn_ca (goodIn_r _ [7, 8, 9, 10, 6, 11, 12, 13, 14, 15, 16, 17, 18, 19, 20, 21, 22, 23, 24, 25, 26, 27, 28, 29, 30, 31, 32, 33, 34, 35, 36, 37] (by decide +kernel) (by decide +kernel)) (goodIn_sub (fun _ h => List.mem_cons_of_mem _ (List.mem_append_left _ (List.mem_append_right _ h))) (by decide +kernel))) (goodIn_sub (fun _ h => List.mem_cons_of_mem _ (List.mem_append_right _ h)) (by decide +kernel))
set_option maxRecDepth 20000 in
theorem gL_buyLinen_X5_buyLinen : GoodIn wsL_buyLinen (wsV RL 17 RX5 yX5_buyLinen wsX5_buyLinen) := goodIn_app (goodIn_of _ (by decide +kernel)) ggL_buyLinen_X5_buyLinen
theorem dL_buyLinen_0 : decode cL_buyLinen 0 = .ok (.aload_n 3, 1) := by decide +kernel
theorem dL_buyLinen_1 : decode cL_buyLinen 1 = .ok (.iconst 0, 1) := by decide +kernel
theorem dL_buyLinen_2 : decode cL_buyLinen 2 = .ok (.aload_n 0, 1) := by decide +kernel
theorem dL_buyLinen_3 : decode cL_buyLinen 3 = .ok (.iload_n 1, 1) := by decide +kernel
theorem dL_buyLinen_4 : decode cL_buyLinen 4 = .ok (.iload_n 2, 1) := by decide +kernel
theorem dL_buyLinen_5 : decode cL_buyLinen 5 = .ok (.invokevirtual 17, 3) := by decide +kernel
theorem dL_buyLinen_8 : decode cL_buyLinen 8 = .ok (.i2l, 1) := by decide +kernel
theorem dL_buyLinen_9 : decode cL_buyLinen 9 = .ok (.lastore, 1) := by decide +kernel
theorem dL_buyLinen_10 : decode cL_buyLinen 10 = .ok (.goto 11, 3) := by decide +kernel
theorem dL_buyLinen_13 : decode cL_buyLinen 13 = .ok (.astore 4, 2) := by decide +kernel
theorem dL_buyLinen_15 : decode cL_buyLinen 15 = .ok (.iconst 1, 1) := by decide +kernel
theorem dL_buyLinen_16 : decode cL_buyLinen 16 = .ok (.ireturn, 1) := by decide +kernel
theorem dL_buyLinen_17 : decode cL_buyLinen 17 = .ok (.astore 4, 2) := by decide +kernel
theorem dL_buyLinen_19 : decode cL_buyLinen 19 = .ok (.iconst 2, 1) := by decide +kernel
theorem dL_buyLinen_20 : decode cL_buyLinen 20 = .ok (.ireturn, 1) := by decide +kernel
theorem dL_buyLinen_21 : decode cL_buyLinen 21 = .ok (.iconst 0, 1) := by decide +kernel
theorem dL_buyLinen_22 : decode cL_buyLinen 22 = .ok (.ireturn, 1) := by decide +kernel
set_option maxRecDepth 20000 in
theorem ggL_book_X5_book : GoodIn wsL_book wsX5_book := goodIn_ca (goodIn_ca (goodIn_ca (goodIn_r _ [8, 9, 10, 11, 12, 13, 14, 7, 15, 16, 17, 18, 19, 20, 21, 22, 23, 24, 25, 26, 27, 28, 29, 30, 31, 32, 33, 34, 35, 36, 37, 38, 39, 40, 41, 42, 43, 44, 45, 46, 47, 48, 49, 50, 51, 52, 53, 54, 55, 56, 57, 58, 59, 60, 61, 62, 63, 64, 65, 66, 67, 68, 69, 70, 71, 72, 73, 74, 75, 76, 77, 78, 79, 80, 81, 82, 83, 84, 85, 86] (by decide +kernel) (by decide +kernel)) (goodIn_sub (fun _ h => List.mem_cons_of_mem _ (List.mem_append_left _ (List.mem_append_left _ (List.mem_append_right _ h)))) (by decide +kernel))) (goodIn_sub (fun _ h => List.mem_cons_of_mem _ (List.mem_append_left _ (List.mem_append_right _ h))) (by decide +kernel))) (goodIn_sub (fun _ h => List.mem_cons_of_mem _ (List.mem_append_right _ h)) (by decide +kernel))
set_option maxRecDepth 20000 in
theorem gL_book_X5_book : GoodIn wsL_book (wsV RL 21 RX5 yX5_book wsX5_book) := goodIn_app (goodIn_of _ (by decide +kernel)) ggL_book_X5_book
theorem dL_book_0 : decode cL_book 0 = .ok (.aload 5, 2) := by decide +kernel
theorem dL_book_2 : decode cL_book 2 = .ok (.iconst 0, 1) := by decide +kernel
theorem dL_book_3 : decode cL_book 3 = .ok (.aload_n 0, 1) := by decide +kernel
theorem dL_book_4 : decode cL_book 4 = .ok (.iload_n 1, 1) := by decide +kernel
theorem dL_book_5 : decode cL_book 5 = .ok (.iload_n 2, 1) := by decide +kernel
theorem dL_book_6 : decode cL_book 6 = .ok (.iload_n 3, 1) := by decide +kernel
theorem dL_book_7 : decode cL_book 7 = .ok (.iload 4, 2) := by decide +kernel
theorem dL_book_9 : decode cL_book 9 = .ok (.invokevirtual 21, 3) := by decide +kernel
theorem dL_book_12 : decode cL_book 12 = .ok (.i2l, 1) := by decide +kernel
theorem dL_book_13 : decode cL_book 13 = .ok (.lastore, 1) := by decide +kernel
theorem dL_book_14 : decode cL_book 14 = .ok (.goto 15, 3) := by decide +kernel
theorem dL_book_17 : decode cL_book 17 = .ok (.astore 6, 2) := by decide +kernel
theorem dL_book_19 : decode cL_book 19 = .ok (.iconst 1, 1) := by decide +kernel
theorem dL_book_20 : decode cL_book 20 = .ok (.ireturn, 1) := by decide +kernel
theorem dL_book_21 : decode cL_book 21 = .ok (.astore 6, 2) := by decide +kernel
theorem dL_book_23 : decode cL_book 23 = .ok (.iconst 2, 1) := by decide +kernel
theorem dL_book_24 : decode cL_book 24 = .ok (.ireturn, 1) := by decide +kernel
theorem dL_book_25 : decode cL_book 25 = .ok (.astore 6, 2) := by decide +kernel
theorem dL_book_27 : decode cL_book 27 = .ok (.iconst 3, 1) := by decide +kernel
theorem dL_book_28 : decode cL_book 28 = .ok (.ireturn, 1) := by decide +kernel
theorem dL_book_29 : decode cL_book 29 = .ok (.iconst 0, 1) := by decide +kernel
theorem dL_book_30 : decode cL_book 30 = .ok (.ireturn, 1) := by decide +kernel
set_option maxRecDepth 20000 in
theorem ggL_come_X5_come : GoodIn wsL_come wsX5_come := goodIn_ca (goodIn_ca (goodIn_r _ [7, 8, 9, 10, 11, 12, 13, 14, 15, 16, 17, 18, 6, 19, 20, 21, 22, 23, 24, 25, 26, 27, 28, 29, 30, 31, 32, 33, 34, 35, 36, 37, 38, 39, 40, 41, 42, 43, 44, 45, 46, 47, 48, 49, 50, 51, 52, 53, 54, 55, 56, 57, 58, 59, 60, 61, 62, 63, 64, 65, 66, 67, 68, 69, 70, 71, 72, 73, 74, 75, 76, 77, 78, 79, 80, 81, 82, 83, 84, 85, 86, 87, 88, 89, 90, 91, 92, 93, 94, 95, 96, 97, 98, 99, 100, 101, 102, 103, 104, 105, 106, 107, 108, 109, 110, 111, 112, 113, 114, 115, 116, 117, 118, 119, 120, 121, 122, 123, 124, 125, 126, 127, 128, 129, 130, 131, 132, 133, 134, 135, 136, 137, 138, 139, 140, 141, 142, 143, 144, 145, 146, 147, 148, 149, 150, 151, 152, 153, 154] (by decide +kernel) (by decide +kernel)) (goodIn_sub (fun _ h => List.mem_cons_of_mem _ (List.mem_append_left _ (List.mem_append_right _ h))) (by decide +kernel))) (goodIn_sub (fun _ h => List.mem_cons_of_mem _ (List.mem_append_right _ h)) (by decide +kernel))
set_option maxRecDepth 20000 in
theorem gL_come_X5_come : GoodIn wsL_come (wsV RL 26 RX5 yX5_come wsX5_come) := goodIn_app (goodIn_of _ (by decide +kernel)) ggL_come_X5_come
theorem dL_come_0 : decode cL_come 0 = .ok (.aload_n 2, 1) := by decide +kernel
theorem dL_come_1 : decode cL_come 1 = .ok (.iconst 0, 1) := by decide +kernel
theorem dL_come_2 : decode cL_come 2 = .ok (.aload_n 0, 1) := by decide +kernel
theorem dL_come_3 : decode cL_come 3 = .ok (.iload_n 1, 1) := by decide +kernel
theorem dL_come_4 : decode cL_come 4 = .ok (.invokevirtual 26, 3) := by decide +kernel
theorem dL_come_7 : decode cL_come 7 = .ok (.i2l, 1) := by decide +kernel
theorem dL_come_8 : decode cL_come 8 = .ok (.lastore, 1) := by decide +kernel
theorem dL_come_9 : decode cL_come 9 = .ok (.goto 9, 3) := by decide +kernel
theorem dL_come_12 : decode cL_come 12 = .ok (.astore_n 3, 1) := by decide +kernel
theorem dL_come_13 : decode cL_come 13 = .ok (.iconst 1, 1) := by decide +kernel
theorem dL_come_14 : decode cL_come 14 = .ok (.ireturn, 1) := by decide +kernel
theorem dL_come_15 : decode cL_come 15 = .ok (.astore_n 3, 1) := by decide +kernel
theorem dL_come_16 : decode cL_come 16 = .ok (.iconst 2, 1) := by decide +kernel
theorem dL_come_17 : decode cL_come 17 = .ok (.ireturn, 1) := by decide +kernel
theorem dL_come_18 : decode cL_come 18 = .ok (.iconst 0, 1) := by decide +kernel
theorem dL_come_19 : decode cL_come 19 = .ok (.ireturn, 1) := by decide +kernel
set_option maxRecDepth 20000 in
theorem ggL_burn_X5_burn : GoodIn wsL_burn wsX5_burn := goodIn_ca (goodIn_ca (goodIn_ca (goodIn_r _ [8, 9, 10, 11, 12, 13, 7, 14, 15, 16, 17, 18, 19, 20, 21, 22, 23, 24, 25, 26, 27, 28, 29, 30, 31, 32, 33, 34, 35, 36, 37, 38, 39, 40, 41, 42, 43, 44, 45, 46, 47, 48, 49, 50, 51, 52, 53, 54, 55, 56, 57, 58, 59, 60, 61, 62, 63, 64, 65, 66, 67, 68] (by decide +kernel) (by decide +kernel)) (goodIn_sub (fun _ h => List.mem_cons_of_mem _ (List.mem_append_left _ (List.mem_append_left _ (List.mem_append_right _ h)))) (by decide +kernel))) (goodIn_sub (fun _ h => List.mem_cons_of_mem _ (List.mem_append_left _ (List.mem_append_right _ h))) (by decide +kernel))) (goodIn_sub (fun _ h => List.mem_cons_of_mem _ (List.mem_append_right _ h)) (by decide +kernel))
set_option maxRecDepth 20000 in
theorem gL_burn_X5_burn : GoodIn wsL_burn (wsV RL 30 RX5 yX5_burn wsX5_burn) := goodIn_app (goodIn_of _ (by decide +kernel)) ggL_burn_X5_burn
theorem dL_burn_0 : decode cL_burn 0 = .ok (.aload 4, 2) := by decide +kernel
theorem dL_burn_2 : decode cL_burn 2 = .ok (.iconst 0, 1) := by decide +kernel
theorem dL_burn_3 : decode cL_burn 3 = .ok (.aload_n 0, 1) := by decide +kernel
theorem dL_burn_4 : decode cL_burn 4 = .ok (.iload_n 1, 1) := by decide +kernel
theorem dL_burn_5 : decode cL_burn 5 = .ok (.iload_n 2, 1) := by decide +kernel
theorem dL_burn_6 : decode cL_burn 6 = .ok (.iload_n 3, 1) := by decide +kernel
theorem dL_burn_7 : decode cL_burn 7 = .ok (.invokevirtual 30, 3) := by decide +kernel
theorem dL_burn_10 : decode cL_burn 10 = .ok (.i2l, 1) := by decide +kernel
theorem dL_burn_11 : decode cL_burn 11 = .ok (.lastore, 1) := by decide +kernel
theorem dL_burn_12 : decode cL_burn 12 = .ok (.goto 15, 3) := by decide +kernel
theorem dL_burn_15 : decode cL_burn 15 = .ok (.astore 5, 2) := by decide +kernel
theorem dL_burn_17 : decode cL_burn 17 = .ok (.iconst 1, 1) := by decide +kernel
theorem dL_burn_18 : decode cL_burn 18 = .ok (.ireturn, 1) := by decide +kernel
theorem dL_burn_19 : decode cL_burn 19 = .ok (.astore 5, 2) := by decide +kernel
theorem dL_burn_21 : decode cL_burn 21 = .ok (.iconst 2, 1) := by decide +kernel
theorem dL_burn_22 : decode cL_burn 22 = .ok (.ireturn, 1) := by decide +kernel
theorem dL_burn_23 : decode cL_burn 23 = .ok (.astore 5, 2) := by decide +kernel
theorem dL_burn_25 : decode cL_burn 25 = .ok (.iconst 3, 1) := by decide +kernel
theorem dL_burn_26 : decode cL_burn 26 = .ok (.ireturn, 1) := by decide +kernel
theorem dL_burn_27 : decode cL_burn 27 = .ok (.iconst 0, 1) := by decide +kernel
theorem dL_burn_28 : decode cL_burn 28 = .ok (.ireturn, 1) := by decide +kernel
set_option maxRecDepth 20000 in
theorem ggL_night_X5_night : GoodIn wsL_night wsX5_night := goodIn_ca (goodIn_r _ [6, 7, 8, 9, 10, 11, 12, 13, 14, 15, 16, 17, 18, 19, 20, 21, 22, 23, 24, 25, 26, 27, 28, 29, 30, 31, 32, 33, 34, 35, 36, 37, 38, 39, 40, 41, 42, 43, 44, 45, 46, 47, 48, 49, 50, 51, 52, 53, 54, 55, 56, 57, 58, 59, 60, 61] (by decide +kernel) (by decide +kernel)) (goodIn_sub (fun _ h => List.mem_cons_of_mem _ (List.mem_append_right _ h)) (by decide +kernel))
set_option maxRecDepth 20000 in
theorem gL_night_X5_night : GoodIn wsL_night (wsV RL 34 RX5 yX5_night wsX5_night) := goodIn_app (goodIn_of _ (by decide +kernel)) ggL_night_X5_night
theorem dL_night_0 : decode cL_night 0 = .ok (.aload_n 1, 1) := by decide +kernel
theorem dL_night_1 : decode cL_night 1 = .ok (.iconst 0, 1) := by decide +kernel
theorem dL_night_2 : decode cL_night 2 = .ok (.aload_n 0, 1) := by decide +kernel
theorem dL_night_3 : decode cL_night 3 = .ok (.invokevirtual 34, 3) := by decide +kernel
theorem dL_night_6 : decode cL_night 6 = .ok (.i2l, 1) := by decide +kernel
theorem dL_night_7 : decode cL_night 7 = .ok (.lastore, 1) := by decide +kernel
theorem dL_night_8 : decode cL_night 8 = .ok (.goto 6, 3) := by decide +kernel
theorem dL_night_11 : decode cL_night 11 = .ok (.astore_n 2, 1) := by decide +kernel
theorem dL_night_12 : decode cL_night 12 = .ok (.iconst 1, 1) := by decide +kernel
theorem dL_night_13 : decode cL_night 13 = .ok (.ireturn, 1) := by decide +kernel
theorem dL_night_14 : decode cL_night 14 = .ok (.iconst 0, 1) := by decide +kernel
theorem dL_night_15 : decode cL_night 15 = .ok (.ireturn, 1) := by decide +kernel
set_option maxRecDepth 20000 in
theorem ggL_free_X5_free : GoodIn wsL_free wsX5_free := goodIn_ca (goodIn_r _ [6, 7, 8, 9, 5, 10, 11, 12, 13, 14, 15, 16, 17, 18, 19, 20, 21, 22, 23, 24, 25, 26, 27, 28, 29, 30, 31, 32, 33, 34, 35, 36, 37, 38, 39, 40, 41, 42, 43, 44, 45, 46] (by decide +kernel) (by decide +kernel)) (goodIn_sub (fun _ h => List.mem_cons_of_mem _ (List.mem_append_right _ h)) (by decide +kernel))
