/-! the instructions, decoded. Printed by wip/gen/gen04.py -/
theorem jd_M_init_0 : decode jb_M_init 0 = .ok (.aload_n 0, 1) := by decide +kernel
theorem jd_M_init_1 : decode jb_M_init 1 = .ok (.invokespecial 1, 3) := by decide +kernel
theorem jd_M_init_4 : decode jb_M_init 4 = .ok (.aload_n 0, 1) := by decide +kernel
theorem jd_M_init_5 : decode jb_M_init 5 = .ok (.sipush 256, 3) := by decide +kernel
theorem jd_M_init_8 : decode jb_M_init 8 = .ok (.newarray .boolean, 2) := by decide +kernel
theorem jd_M_init_10 : decode jb_M_init 10 = .ok (.putfield 7, 3) := by decide +kernel
theorem jd_M_init_13 : decode jb_M_init 13 = .ok (.aload_n 0, 1) := by decide +kernel
theorem jd_M_init_14 : decode jb_M_init 14 = .ok (.sipush 256, 3) := by decide +kernel
theorem jd_M_init_17 : decode jb_M_init 17 = .ok (.newarray .int, 2) := by decide +kernel
theorem jd_M_init_19 : decode jb_M_init 19 = .ok (.putfield 13, 3) := by decide +kernel
theorem jd_M_init_22 : decode jb_M_init 22 = .ok (.aload_n 0, 1) := by decide +kernel
theorem jd_M_init_23 : decode jb_M_init 23 = .ok (.sipush 256, 3) := by decide +kernel
theorem jd_M_init_26 : decode jb_M_init 26 = .ok (.newarray .int, 2) := by decide +kernel
theorem jd_M_init_28 : decode jb_M_init 28 = .ok (.putfield 17, 3) := by decide +kernel
theorem jd_M_init_31 : decode jb_M_init 31 = .ok (.aload_n 0, 1) := by decide +kernel
theorem jd_M_init_32 : decode jb_M_init 32 = .ok (.sipush 128, 3) := by decide +kernel
theorem jd_M_init_35 : decode jb_M_init 35 = .ok (.newarray .boolean, 2) := by decide +kernel
theorem jd_M_init_37 : decode jb_M_init 37 = .ok (.putfield 20, 3) := by decide +kernel
theorem jd_M_init_40 : decode jb_M_init 40 = .ok (.aload_n 0, 1) := by decide +kernel
theorem jd_M_init_41 : decode jb_M_init 41 = .ok (.sipush 256, 3) := by decide +kernel
theorem jd_M_init_44 : decode jb_M_init 44 = .ok (.newarray .int, 2) := by decide +kernel
theorem jd_M_init_46 : decode jb_M_init 46 = .ok (.putfield 23, 3) := by decide +kernel
theorem jd_M_init_49 : decode jb_M_init 49 = .ok (.aload_n 0, 1) := by decide +kernel
theorem jd_M_init_50 : decode jb_M_init 50 = .ok (.sipush 128, 3) := by decide +kernel
theorem jd_M_init_53 : decode jb_M_init 53 = .ok (.newarray .int, 2) := by decide +kernel
theorem jd_M_init_55 : decode jb_M_init 55 = .ok (.putfield 26, 3) := by decide +kernel
theorem jd_M_init_58 : decode jb_M_init 58 = .ok (.aload_n 0, 1) := by decide +kernel
theorem jd_M_init_59 : decode jb_M_init 59 = .ok (.sipush 128, 3) := by decide +kernel
theorem jd_M_init_62 : decode jb_M_init 62 = .ok (.newarray .boolean, 2) := by decide +kernel
theorem jd_M_init_64 : decode jb_M_init 64 = .ok (.putfield 29, 3) := by decide +kernel
theorem jd_M_init_67 : decode jb_M_init 67 = .ok (.aload_n 0, 1) := by decide +kernel
theorem jd_M_init_68 : decode jb_M_init 68 = .ok (.iconst (-1), 1) := by decide +kernel
theorem jd_M_init_69 : decode jb_M_init 69 = .ok (.putfield 32, 3) := by decide +kernel
theorem jd_M_init_72 : decode jb_M_init 72 = .ok (.aload_n 0, 1) := by decide +kernel
theorem jd_M_init_73 : decode jb_M_init 73 = .ok (.sipush 512, 3) := by decide +kernel
theorem jd_M_init_76 : decode jb_M_init 76 = .ok (.newarray .int, 2) := by decide +kernel
theorem jd_M_init_78 : decode jb_M_init 78 = .ok (.putfield 36, 3) := by decide +kernel
theorem jd_M_init_81 : decode jb_M_init 81 = .ok (.aload_n 0, 1) := by decide +kernel
theorem jd_M_init_82 : decode jb_M_init 82 = .ok (.sipush 700, 3) := by decide +kernel
theorem jd_M_init_85 : decode jb_M_init 85 = .ok (.newarray .int, 2) := by decide +kernel
theorem jd_M_init_87 : decode jb_M_init 87 = .ok (.putfield 39, 3) := by decide +kernel
theorem jd_M_init_90 : decode jb_M_init 90 = .ok (.aload_n 0, 1) := by decide +kernel
theorem jd_M_init_91 : decode jb_M_init 91 = .ok (.sipush 700, 3) := by decide +kernel
theorem jd_M_init_94 : decode jb_M_init 94 = .ok (.newarray .int, 2) := by decide +kernel
theorem jd_M_init_96 : decode jb_M_init 96 = .ok (.putfield 42, 3) := by decide +kernel
theorem jd_M_init_99 : decode jb_M_init 99 = .ok (.aload_n 0, 1) := by decide +kernel
theorem jd_M_init_100 : decode jb_M_init 100 = .ok (.sipush 700, 3) := by decide +kernel
theorem jd_M_init_103 : decode jb_M_init 103 = .ok (.newarray .int, 2) := by decide +kernel
theorem jd_M_init_105 : decode jb_M_init 105 = .ok (.putfield 45, 3) := by decide +kernel
theorem jd_M_init_108 : decode jb_M_init 108 = .ok (.aload_n 0, 1) := by decide +kernel
theorem jd_M_init_109 : decode jb_M_init 109 = .ok (.sipush 700, 3) := by decide +kernel
theorem jd_M_init_112 : decode jb_M_init 112 = .ok (.newarray .int, 2) := by decide +kernel
theorem jd_M_init_114 : decode jb_M_init 114 = .ok (.putfield 48, 3) := by decide +kernel
theorem jd_M_init_117 : decode jb_M_init 117 = .ok (.aload_n 0, 1) := by decide +kernel
theorem jd_M_init_118 : decode jb_M_init 118 = .ok (.bipush 17, 2) := by decide +kernel
theorem jd_M_init_120 : decode jb_M_init 120 = .ok (.newarray .boolean, 2) := by decide +kernel
theorem jd_M_init_122 : decode jb_M_init 122 = .ok (.putfield 51, 3) := by decide +kernel
theorem jd_M_init_125 : decode jb_M_init 125 = .ok (.aload_n 0, 1) := by decide +kernel
theorem jd_M_init_126 : decode jb_M_init 126 = .ok (.bipush 17, 2) := by decide +kernel
theorem jd_M_init_128 : decode jb_M_init 128 = .ok (.newarray .int, 2) := by decide +kernel
theorem jd_M_init_130 : decode jb_M_init 130 = .ok (.putfield 54, 3) := by decide +kernel
theorem jd_M_init_133 : decode jb_M_init 133 = .ok (.aload_n 0, 1) := by decide +kernel
theorem jd_M_init_134 : decode jb_M_init 134 = .ok (.bipush 17, 2) := by decide +kernel
theorem jd_M_init_136 : decode jb_M_init 136 = .ok (.newarray .int, 2) := by decide +kernel
theorem jd_M_init_138 : decode jb_M_init 138 = .ok (.putfield 57, 3) := by decide +kernel
theorem jd_M_init_141 : decode jb_M_init 141 = .ok (.aload_n 0, 1) := by decide +kernel
theorem jd_M_init_142 : decode jb_M_init 142 = .ok (.sipush 256, 3) := by decide +kernel
theorem jd_M_init_145 : decode jb_M_init 145 = .ok (.newarray .int, 2) := by decide +kernel
theorem jd_M_init_147 : decode jb_M_init 147 = .ok (.putfield 60, 3) := by decide +kernel
theorem jd_M_init_150 : decode jb_M_init 150 = .ok (.aload_n 0, 1) := by decide +kernel
theorem jd_M_init_151 : decode jb_M_init 151 = .ok (.sipush 256, 3) := by decide +kernel
theorem jd_M_init_154 : decode jb_M_init 154 = .ok (.newarray .int, 2) := by decide +kernel
theorem jd_M_init_156 : decode jb_M_init 156 = .ok (.putfield 63, 3) := by decide +kernel
theorem jd_M_init_159 : decode jb_M_init 159 = .ok (.return_, 1) := by decide +kernel
theorem jd_M_thrown_0 : decode jb_M_thrown 0 = .ok (.aload_n 0, 1) := by decide +kernel
theorem jd_M_thrown_1 : decode jb_M_thrown 1 = .ok (.getfield 66, 3) := by decide +kernel
theorem jd_M_thrown_4 : decode jb_M_thrown 4 = .ok (.ireturn, 1) := by decide +kernel
theorem jd_M_record_0 : decode jb_M_record 0 = .ok (.aload_n 0, 1) := by decide +kernel
theorem jd_M_record_1 : decode jb_M_record 1 = .ok (.iload_n 1, 1) := by decide +kernel
theorem jd_M_record_2 : decode jb_M_record 2 = .ok (.invokestatic 69, 3) := by decide +kernel
theorem jd_M_record_5 : decode jb_M_record 5 = .ok (.ifCond .eq 30, 3) := by decide +kernel
theorem jd_M_record_8 : decode jb_M_record 8 = .ok (.iload_n 3, 1) := by decide +kernel
theorem jd_M_record_9 : decode jb_M_record 9 = .ok (.iconst 1, 1) := by decide +kernel
theorem jd_M_record_10 : decode jb_M_record 10 = .ok (.bipush 32, 2) := by decide +kernel
theorem jd_M_record_12 : decode jb_M_record 12 = .ok (.invokestatic 73, 3) := by decide +kernel
theorem jd_M_record_15 : decode jb_M_record 15 = .ok (.ifCond .eq 20, 3) := by decide +kernel
theorem jd_M_record_18 : decode jb_M_record 18 = .ok (.iload_n 2, 1) := by decide +kernel
theorem jd_M_record_19 : decode jb_M_record 19 = .ok (.iconst 0, 1) := by decide +kernel
theorem jd_M_record_20 : decode jb_M_record 20 = .ok (.sipush 128, 3) := by decide +kernel
theorem jd_M_record_23 : decode jb_M_record 23 = .ok (.iload_n 3, 1) := by decide +kernel
theorem jd_M_record_24 : decode jb_M_record 24 = .ok (.isub, 1) := by decide +kernel
theorem jd_M_record_25 : decode jb_M_record 25 = .ok (.invokestatic 73, 3) := by decide +kernel
theorem jd_M_record_28 : decode jb_M_record 28 = .ok (.ifCond .eq 7, 3) := by decide +kernel
theorem jd_M_record_31 : decode jb_M_record 31 = .ok (.iconst 0, 1) := by decide +kernel
theorem jd_M_record_32 : decode jb_M_record 32 = .ok (.goto 4, 3) := by decide +kernel
theorem jd_M_record_35 : decode jb_M_record 35 = .ok (.iconst 1, 1) := by decide +kernel
theorem jd_M_record_36 : decode jb_M_record 36 = .ok (.putfield 66, 3) := by decide +kernel
theorem jd_M_record_39 : decode jb_M_record 39 = .ok (.aload_n 0, 1) := by decide +kernel
theorem jd_M_record_40 : decode jb_M_record 40 = .ok (.getfield 66, 3) := by decide +kernel
theorem jd_M_record_43 : decode jb_M_record 43 = .ok (.ifCond .le 5, 3) := by decide +kernel
theorem jd_M_record_46 : decode jb_M_record 46 = .ok (.iconst 0, 1) := by decide +kernel
theorem jd_M_record_47 : decode jb_M_record 47 = .ok (.ireturn, 1) := by decide +kernel
theorem jd_M_record_48 : decode jb_M_record 48 = .ok (.aload_n 0, 1) := by decide +kernel
theorem jd_M_record_49 : decode jb_M_record 49 = .ok (.getfield 77, 3) := by decide +kernel
theorem jd_M_record_52 : decode jb_M_record 52 = .ok (.ifCond .ne 7, 3) := by decide +kernel
theorem jd_M_record_55 : decode jb_M_record 55 = .ok (.iconst 1, 1) := by decide +kernel
theorem jd_M_record_56 : decode jb_M_record 56 = .ok (.goto 4, 3) := by decide +kernel
theorem jd_M_record_59 : decode jb_M_record 59 = .ok (.iconst 0, 1) := by decide +kernel
theorem jd_M_record_60 : decode jb_M_record 60 = .ok (.istore 7, 2) := by decide +kernel
theorem jd_M_record_62 : decode jb_M_record 62 = .ok (.iconst 0, 1) := by decide +kernel
theorem jd_M_record_63 : decode jb_M_record 63 = .ok (.istore 8, 2) := by decide +kernel
theorem jd_M_record_65 : decode jb_M_record 65 = .ok (.iload 8, 2) := by decide +kernel
theorem jd_M_record_67 : decode jb_M_record 67 = .ok (.iload_n 3, 1) := by decide +kernel
theorem jd_M_record_68 : decode jb_M_record 68 = .ok (.if_icmp .ge 39, 3) := by decide +kernel
theorem jd_M_record_71 : decode jb_M_record 71 = .ok (.iload 7, 2) := by decide +kernel
theorem jd_M_record_73 : decode jb_M_record 73 = .ok (.ifCond .eq 25, 3) := by decide +kernel
theorem jd_M_record_76 : decode jb_M_record 76 = .ok (.aload_n 0, 1) := by decide +kernel
theorem jd_M_record_77 : decode jb_M_record 77 = .ok (.getfield 7, 3) := by decide +kernel
theorem jd_M_record_80 : decode jb_M_record 80 = .ok (.sipush 128, 3) := by decide +kernel
theorem jd_M_record_83 : decode jb_M_record 83 = .ok (.iload_n 1, 1) := by decide +kernel
theorem jd_M_record_84 : decode jb_M_record 84 = .ok (.imul, 1) := by decide +kernel
theorem jd_M_record_85 : decode jb_M_record 85 = .ok (.iload_n 2, 1) := by decide +kernel
theorem jd_M_record_86 : decode jb_M_record 86 = .ok (.iadd, 1) := by decide +kernel
theorem jd_M_record_87 : decode jb_M_record 87 = .ok (.iload 8, 2) := by decide +kernel
theorem jd_M_record_89 : decode jb_M_record 89 = .ok (.iadd, 1) := by decide +kernel
theorem jd_M_record_90 : decode jb_M_record 90 = .ok (.baload, 1) := by decide +kernel
theorem jd_M_record_91 : decode jb_M_record 91 = .ok (.ifCond .ne 7, 3) := by decide +kernel
theorem jd_M_record_94 : decode jb_M_record 94 = .ok (.iconst 1, 1) := by decide +kernel
theorem jd_M_record_95 : decode jb_M_record 95 = .ok (.goto 4, 3) := by decide +kernel
theorem jd_M_record_98 : decode jb_M_record 98 = .ok (.iconst 0, 1) := by decide +kernel
theorem jd_M_record_99 : decode jb_M_record 99 = .ok (.istore 7, 2) := by decide +kernel
theorem jd_M_record_101 : decode jb_M_record 101 = .ok (.iinc 8 1, 3) := by decide +kernel
theorem jd_M_record_104 : decode jb_M_record 104 = .ok (.goto (-39), 3) := by decide +kernel
theorem jd_M_record_107 : decode jb_M_record 107 = .ok (.iload 7, 2) := by decide +kernel
theorem jd_M_record_109 : decode jb_M_record 109 = .ok (.ifCond .ne 9, 3) := by decide +kernel
theorem jd_M_record_112 : decode jb_M_record 112 = .ok (.aload_n 0, 1) := by decide +kernel
theorem jd_M_record_113 : decode jb_M_record 113 = .ok (.iconst 2, 1) := by decide +kernel
theorem jd_M_record_114 : decode jb_M_record 114 = .ok (.invokevirtual 81, 3) := by decide +kernel
theorem jd_M_record_117 : decode jb_M_record 117 = .ok (.ireturn, 1) := by decide +kernel
theorem jd_M_record_118 : decode jb_M_record 118 = .ok (.iconst 0, 1) := by decide +kernel
theorem jd_M_record_119 : decode jb_M_record 119 = .ok (.istore 8, 2) := by decide +kernel
theorem jd_M_record_121 : decode jb_M_record 121 = .ok (.iload 8, 2) := by decide +kernel
theorem jd_M_record_123 : decode jb_M_record 123 = .ok (.iload_n 3, 1) := by decide +kernel
theorem jd_M_record_124 : decode jb_M_record 124 = .ok (.if_icmp .ge 99, 3) := by decide +kernel
theorem jd_M_record_127 : decode jb_M_record 127 = .ok (.sipush 128, 3) := by decide +kernel
theorem jd_M_record_130 : decode jb_M_record 130 = .ok (.iload_n 1, 1) := by decide +kernel
theorem jd_M_record_131 : decode jb_M_record 131 = .ok (.imul, 1) := by decide +kernel
theorem jd_M_record_132 : decode jb_M_record 132 = .ok (.iload_n 2, 1) := by decide +kernel
theorem jd_M_record_133 : decode jb_M_record 133 = .ok (.iadd, 1) := by decide +kernel
theorem jd_M_record_134 : decode jb_M_record 134 = .ok (.iload 8, 2) := by decide +kernel
theorem jd_M_record_136 : decode jb_M_record 136 = .ok (.iadd, 1) := by decide +kernel
theorem jd_M_record_137 : decode jb_M_record 137 = .ok (.istore 9, 2) := by decide +kernel
theorem jd_M_record_139 : decode jb_M_record 139 = .ok (.aload_n 0, 1) := by decide +kernel
theorem jd_M_record_140 : decode jb_M_record 140 = .ok (.getfield 7, 3) := by decide +kernel
theorem jd_M_record_143 : decode jb_M_record 143 = .ok (.iload 9, 2) := by decide +kernel
theorem jd_M_record_145 : decode jb_M_record 145 = .ok (.iconst 1, 1) := by decide +kernel
theorem jd_M_record_146 : decode jb_M_record 146 = .ok (.bastore, 1) := by decide +kernel
theorem jd_M_record_147 : decode jb_M_record 147 = .ok (.aload_n 0, 1) := by decide +kernel
theorem jd_M_record_148 : decode jb_M_record 148 = .ok (.getfield 13, 3) := by decide +kernel
theorem jd_M_record_151 : decode jb_M_record 151 = .ok (.iload 9, 2) := by decide +kernel
theorem jd_M_record_153 : decode jb_M_record 153 = .ok (.iload 4, 2) := by decide +kernel
theorem jd_M_record_155 : decode jb_M_record 155 = .ok (.iload 8, 2) := by decide +kernel
theorem jd_M_record_157 : decode jb_M_record 157 = .ok (.ishr, 1) := by decide +kernel
theorem jd_M_record_158 : decode jb_M_record 158 = .ok (.iconst 1, 1) := by decide +kernel
theorem jd_M_record_159 : decode jb_M_record 159 = .ok (.iand, 1) := by decide +kernel
theorem jd_M_record_160 : decode jb_M_record 160 = .ok (.iastore, 1) := by decide +kernel
theorem jd_M_record_161 : decode jb_M_record 161 = .ok (.aload_n 0, 1) := by decide +kernel
theorem jd_M_record_162 : decode jb_M_record 162 = .ok (.getfield 17, 3) := by decide +kernel
theorem jd_M_record_165 : decode jb_M_record 165 = .ok (.iload 9, 2) := by decide +kernel
theorem jd_M_record_167 : decode jb_M_record 167 = .ok (.iload 5, 2) := by decide +kernel
theorem jd_M_record_169 : decode jb_M_record 169 = .ok (.iload 8, 2) := by decide +kernel
theorem jd_M_record_171 : decode jb_M_record 171 = .ok (.ishr, 1) := by decide +kernel
theorem jd_M_record_172 : decode jb_M_record 172 = .ok (.iconst 1, 1) := by decide +kernel
theorem jd_M_record_173 : decode jb_M_record 173 = .ok (.iand, 1) := by decide +kernel
theorem jd_M_record_174 : decode jb_M_record 174 = .ok (.iastore, 1) := by decide +kernel
theorem jd_M_record_175 : decode jb_M_record 175 = .ok (.aload_n 0, 1) := by decide +kernel
theorem jd_M_record_176 : decode jb_M_record 176 = .ok (.getfield 20, 3) := by decide +kernel
theorem jd_M_record_179 : decode jb_M_record 179 = .ok (.iload_n 2, 1) := by decide +kernel
theorem jd_M_record_180 : decode jb_M_record 180 = .ok (.iload 8, 2) := by decide +kernel
theorem jd_M_record_182 : decode jb_M_record 182 = .ok (.iadd, 1) := by decide +kernel
theorem jd_M_record_183 : decode jb_M_record 183 = .ok (.iload_n 1, 1) := by decide +kernel
theorem jd_M_record_184 : decode jb_M_record 184 = .ok (.iconst 1, 1) := by decide +kernel
theorem jd_M_record_185 : decode jb_M_record 185 = .ok (.if_icmp .ne 22, 3) := by decide +kernel
theorem jd_M_record_188 : decode jb_M_record 188 = .ok (.iload 6, 2) := by decide +kernel
theorem jd_M_record_190 : decode jb_M_record 190 = .ok (.iload 8, 2) := by decide +kernel
theorem jd_M_record_192 : decode jb_M_record 192 = .ok (.ishr, 1) := by decide +kernel
theorem jd_M_record_193 : decode jb_M_record 193 = .ok (.iconst 1, 1) := by decide +kernel
theorem jd_M_record_194 : decode jb_M_record 194 = .ok (.iand, 1) := by decide +kernel
theorem jd_M_record_195 : decode jb_M_record 195 = .ok (.iconst 1, 1) := by decide +kernel
theorem jd_M_record_196 : decode jb_M_record 196 = .ok (.if_icmp .ne 7, 3) := by decide +kernel
theorem jd_M_record_199 : decode jb_M_record 199 = .ok (.iconst 1, 1) := by decide +kernel
theorem jd_M_record_200 : decode jb_M_record 200 = .ok (.goto 16, 3) := by decide +kernel
theorem jd_M_record_203 : decode jb_M_record 203 = .ok (.iconst 0, 1) := by decide +kernel
theorem jd_M_record_204 : decode jb_M_record 204 = .ok (.goto 12, 3) := by decide +kernel
theorem jd_M_record_207 : decode jb_M_record 207 = .ok (.aload_n 0, 1) := by decide +kernel
theorem jd_M_record_208 : decode jb_M_record 208 = .ok (.getfield 20, 3) := by decide +kernel
theorem jd_M_record_211 : decode jb_M_record 211 = .ok (.iload_n 2, 1) := by decide +kernel
theorem jd_M_record_212 : decode jb_M_record 212 = .ok (.iload 8, 2) := by decide +kernel
theorem jd_M_record_214 : decode jb_M_record 214 = .ok (.iadd, 1) := by decide +kernel
theorem jd_M_record_215 : decode jb_M_record 215 = .ok (.baload, 1) := by decide +kernel
theorem jd_M_record_216 : decode jb_M_record 216 = .ok (.bastore, 1) := by decide +kernel
theorem jd_M_record_217 : decode jb_M_record 217 = .ok (.iinc 8 1, 3) := by decide +kernel
theorem jd_M_record_220 : decode jb_M_record 220 = .ok (.goto (-99), 3) := by decide +kernel
theorem jd_M_record_223 : decode jb_M_record 223 = .ok (.iconst 0, 1) := by decide +kernel
theorem jd_M_record_224 : decode jb_M_record 224 = .ok (.istore 8, 2) := by decide +kernel
theorem jd_M_record_226 : decode jb_M_record 226 = .ok (.iconst 0, 1) := by decide +kernel
theorem jd_M_record_227 : decode jb_M_record 227 = .ok (.istore 9, 2) := by decide +kernel
theorem jd_M_record_229 : decode jb_M_record 229 = .ok (.iload 9, 2) := by decide +kernel
theorem jd_M_record_231 : decode jb_M_record 231 = .ok (.sipush 128, 3) := by decide +kernel
theorem jd_M_record_234 : decode jb_M_record 234 = .ok (.if_icmp .ge 36, 3) := by decide +kernel
theorem jd_M_record_237 : decode jb_M_record 237 = .ok (.aload_n 0, 1) := by decide +kernel
theorem jd_M_record_238 : decode jb_M_record 238 = .ok (.getfield 7, 3) := by decide +kernel
theorem jd_M_record_241 : decode jb_M_record 241 = .ok (.sipush 128, 3) := by decide +kernel
theorem jd_M_record_244 : decode jb_M_record 244 = .ok (.iload_n 1, 1) := by decide +kernel
theorem jd_M_record_245 : decode jb_M_record 245 = .ok (.imul, 1) := by decide +kernel
theorem jd_M_record_246 : decode jb_M_record 246 = .ok (.iload 9, 2) := by decide +kernel
theorem jd_M_record_248 : decode jb_M_record 248 = .ok (.iadd, 1) := by decide +kernel
theorem jd_M_record_249 : decode jb_M_record 249 = .ok (.baload, 1) := by decide +kernel
theorem jd_M_record_250 : decode jb_M_record 250 = .ok (.ifCond .eq 10, 3) := by decide +kernel
theorem jd_M_record_253 : decode jb_M_record 253 = .ok (.iload 8, 2) := by decide +kernel
theorem jd_M_record_255 : decode jb_M_record 255 = .ok (.iconst 1, 1) := by decide +kernel
theorem jd_M_record_256 : decode jb_M_record 256 = .ok (.iadd, 1) := by decide +kernel
theorem jd_M_record_257 : decode jb_M_record 257 = .ok (.goto 5, 3) := by decide +kernel
theorem jd_M_record_260 : decode jb_M_record 260 = .ok (.iload 8, 2) := by decide +kernel
theorem jd_M_record_262 : decode jb_M_record 262 = .ok (.istore 8, 2) := by decide +kernel
theorem jd_M_record_264 : decode jb_M_record 264 = .ok (.iinc 9 1, 3) := by decide +kernel
theorem jd_M_record_267 : decode jb_M_record 267 = .ok (.goto (-38), 3) := by decide +kernel
theorem jd_M_record_270 : decode jb_M_record 270 = .ok (.iload 8, 2) := by decide +kernel
theorem jd_M_record_272 : decode jb_M_record 272 = .ok (.ireturn, 1) := by decide +kernel
theorem jd_M_isStation_0 : decode jb_M_isStation 0 = .ok (.iload_n 0, 1) := by decide +kernel
theorem jd_M_isStation_1 : decode jb_M_isStation 1 = .ok (.ifCond .eq 8, 3) := by decide +kernel
theorem jd_M_isStation_4 : decode jb_M_isStation 4 = .ok (.iload_n 0, 1) := by decide +kernel
theorem jd_M_isStation_5 : decode jb_M_isStation 5 = .ok (.iconst 1, 1) := by decide +kernel
theorem jd_M_isStation_6 : decode jb_M_isStation 6 = .ok (.if_icmp .ne 7, 3) := by decide +kernel
theorem jd_M_isStation_9 : decode jb_M_isStation 9 = .ok (.iconst 1, 1) := by decide +kernel
theorem jd_M_isStation_10 : decode jb_M_isStation 10 = .ok (.goto 4, 3) := by decide +kernel
theorem jd_M_isStation_13 : decode jb_M_isStation 13 = .ok (.iconst 0, 1) := by decide +kernel
theorem jd_M_isStation_14 : decode jb_M_isStation 14 = .ok (.ireturn, 1) := by decide +kernel
theorem jd_M_within_0 : decode jb_M_within 0 = .ok (.iload_n 0, 1) := by decide +kernel
theorem jd_M_within_1 : decode jb_M_within 1 = .ok (.iload_n 1, 1) := by decide +kernel
theorem jd_M_within_2 : decode jb_M_within 2 = .ok (.if_icmp .lt 12, 3) := by decide +kernel
theorem jd_M_within_5 : decode jb_M_within 5 = .ok (.iload_n 0, 1) := by decide +kernel
theorem jd_M_within_6 : decode jb_M_within 6 = .ok (.iload_n 2, 1) := by decide +kernel
theorem jd_M_within_7 : decode jb_M_within 7 = .ok (.if_icmp .gt 7, 3) := by decide +kernel
theorem jd_M_within_10 : decode jb_M_within 10 = .ok (.iconst 1, 1) := by decide +kernel
theorem jd_M_within_11 : decode jb_M_within 11 = .ok (.goto 4, 3) := by decide +kernel
theorem jd_M_within_14 : decode jb_M_within 14 = .ok (.iconst 0, 1) := by decide +kernel
theorem jd_M_within_15 : decode jb_M_within 15 = .ok (.ireturn, 1) := by decide +kernel
theorem jd_M_refuse_0 : decode jb_M_refuse 0 = .ok (.aload_n 0, 1) := by decide +kernel
theorem jd_M_refuse_1 : decode jb_M_refuse 1 = .ok (.iload_n 1, 1) := by decide +kernel
theorem jd_M_refuse_2 : decode jb_M_refuse 2 = .ok (.putfield 66, 3) := by decide +kernel
theorem jd_M_refuse_5 : decode jb_M_refuse 5 = .ok (.iconst 0, 1) := by decide +kernel
theorem jd_M_refuse_6 : decode jb_M_refuse 6 = .ok (.ireturn, 1) := by decide +kernel
theorem jd_M_sift_0 : decode jb_M_sift 0 = .ok (.aload_n 0, 1) := by decide +kernel
theorem jd_M_sift_1 : decode jb_M_sift 1 = .ok (.aload_n 0, 1) := by decide +kernel
theorem jd_M_sift_2 : decode jb_M_sift 2 = .ok (.getfield 77, 3) := by decide +kernel
theorem jd_M_sift_5 : decode jb_M_sift 5 = .ok (.ifCond .eq 7, 3) := by decide +kernel
theorem jd_M_sift_8 : decode jb_M_sift 8 = .ok (.iconst 1, 1) := by decide +kernel
theorem jd_M_sift_9 : decode jb_M_sift 9 = .ok (.goto 4, 3) := by decide +kernel
theorem jd_M_sift_12 : decode jb_M_sift 12 = .ok (.iconst 0, 1) := by decide +kernel
theorem jd_M_sift_13 : decode jb_M_sift 13 = .ok (.putfield 66, 3) := by decide +kernel
theorem jd_M_sift_16 : decode jb_M_sift 16 = .ok (.aload_n 0, 1) := by decide +kernel
theorem jd_M_sift_17 : decode jb_M_sift 17 = .ok (.getfield 66, 3) := by decide +kernel
theorem jd_M_sift_20 : decode jb_M_sift 20 = .ok (.ifCond .le 5, 3) := by decide +kernel
theorem jd_M_sift_23 : decode jb_M_sift 23 = .ok (.iconst 0, 1) := by decide +kernel
theorem jd_M_sift_24 : decode jb_M_sift 24 = .ok (.ireturn, 1) := by decide +kernel
theorem jd_M_sift_25 : decode jb_M_sift 25 = .ok (.aload_n 0, 1) := by decide +kernel
theorem jd_M_sift_26 : decode jb_M_sift 26 = .ok (.iconst 1, 1) := by decide +kernel
theorem jd_M_sift_27 : decode jb_M_sift 27 = .ok (.putfield 77, 3) := by decide +kernel
theorem jd_M_sift_30 : decode jb_M_sift 30 = .ok (.iconst 0, 1) := by decide +kernel
theorem jd_M_sift_31 : decode jb_M_sift 31 = .ok (.istore_n 1, 1) := by decide +kernel
theorem jd_M_sift_32 : decode jb_M_sift 32 = .ok (.iload_n 1, 1) := by decide +kernel
theorem jd_M_sift_33 : decode jb_M_sift 33 = .ok (.sipush 128, 3) := by decide +kernel
theorem jd_M_sift_36 : decode jb_M_sift 36 = .ok (.if_icmp .ge 107, 3) := by decide +kernel
theorem jd_M_sift_39 : decode jb_M_sift 39 = .ok (.aload_n 0, 1) := by decide +kernel
theorem jd_M_sift_40 : decode jb_M_sift 40 = .ok (.getfield 7, 3) := by decide +kernel
theorem jd_M_sift_43 : decode jb_M_sift 43 = .ok (.iload_n 1, 1) := by decide +kernel
theorem jd_M_sift_44 : decode jb_M_sift 44 = .ok (.baload, 1) := by decide +kernel
theorem jd_M_sift_45 : decode jb_M_sift 45 = .ok (.ifCond .eq 92, 3) := by decide +kernel
theorem jd_M_sift_48 : decode jb_M_sift 48 = .ok (.aload_n 0, 1) := by decide +kernel
theorem jd_M_sift_49 : decode jb_M_sift 49 = .ok (.getfield 7, 3) := by decide +kernel
theorem jd_M_sift_52 : decode jb_M_sift 52 = .ok (.sipush 128, 3) := by decide +kernel
theorem jd_M_sift_55 : decode jb_M_sift 55 = .ok (.iload_n 1, 1) := by decide +kernel
theorem jd_M_sift_56 : decode jb_M_sift 56 = .ok (.iadd, 1) := by decide +kernel
theorem jd_M_sift_57 : decode jb_M_sift 57 = .ok (.baload, 1) := by decide +kernel
theorem jd_M_sift_58 : decode jb_M_sift 58 = .ok (.ifCond .eq 79, 3) := by decide +kernel
theorem jd_M_sift_61 : decode jb_M_sift 61 = .ok (.aload_n 0, 1) := by decide +kernel
theorem jd_M_sift_62 : decode jb_M_sift 62 = .ok (.getfield 20, 3) := by decide +kernel
theorem jd_M_sift_65 : decode jb_M_sift 65 = .ok (.iload_n 1, 1) := by decide +kernel
theorem jd_M_sift_66 : decode jb_M_sift 66 = .ok (.baload, 1) := by decide +kernel
theorem jd_M_sift_67 : decode jb_M_sift 67 = .ok (.ifCond .eq 70, 3) := by decide +kernel
theorem jd_M_sift_70 : decode jb_M_sift 70 = .ok (.aload_n 0, 1) := by decide +kernel
theorem jd_M_sift_71 : decode jb_M_sift 71 = .ok (.getfield 13, 3) := by decide +kernel
theorem jd_M_sift_74 : decode jb_M_sift 74 = .ok (.iload_n 1, 1) := by decide +kernel
theorem jd_M_sift_75 : decode jb_M_sift 75 = .ok (.iaload, 1) := by decide +kernel
theorem jd_M_sift_76 : decode jb_M_sift 76 = .ok (.aload_n 0, 1) := by decide +kernel
theorem jd_M_sift_77 : decode jb_M_sift 77 = .ok (.getfield 13, 3) := by decide +kernel
theorem jd_M_sift_80 : decode jb_M_sift 80 = .ok (.sipush 128, 3) := by decide +kernel
theorem jd_M_sift_83 : decode jb_M_sift 83 = .ok (.iload_n 1, 1) := by decide +kernel
theorem jd_M_sift_84 : decode jb_M_sift 84 = .ok (.iadd, 1) := by decide +kernel
theorem jd_M_sift_85 : decode jb_M_sift 85 = .ok (.iaload, 1) := by decide +kernel
theorem jd_M_sift_86 : decode jb_M_sift 86 = .ok (.if_icmp .ne 51, 3) := by decide +kernel
theorem jd_M_sift_89 : decode jb_M_sift 89 = .ok (.aload_n 0, 1) := by decide +kernel
theorem jd_M_sift_90 : decode jb_M_sift 90 = .ok (.getfield 23, 3) := by decide +kernel
theorem jd_M_sift_93 : decode jb_M_sift 93 = .ok (.aload_n 0, 1) := by decide +kernel
theorem jd_M_sift_94 : decode jb_M_sift 94 = .ok (.getfield 85, 3) := by decide +kernel
theorem jd_M_sift_97 : decode jb_M_sift 97 = .ok (.aload_n 0, 1) := by decide +kernel
theorem jd_M_sift_98 : decode jb_M_sift 98 = .ok (.getfield 17, 3) := by decide +kernel
theorem jd_M_sift_101 : decode jb_M_sift 101 = .ok (.iload_n 1, 1) := by decide +kernel
theorem jd_M_sift_102 : decode jb_M_sift 102 = .ok (.iaload, 1) := by decide +kernel
theorem jd_M_sift_103 : decode jb_M_sift 103 = .ok (.iastore, 1) := by decide +kernel
theorem jd_M_sift_104 : decode jb_M_sift 104 = .ok (.aload_n 0, 1) := by decide +kernel
theorem jd_M_sift_105 : decode jb_M_sift 105 = .ok (.getfield 23, 3) := by decide +kernel
theorem jd_M_sift_108 : decode jb_M_sift 108 = .ok (.sipush 128, 3) := by decide +kernel
theorem jd_M_sift_111 : decode jb_M_sift 111 = .ok (.aload_n 0, 1) := by decide +kernel
theorem jd_M_sift_112 : decode jb_M_sift 112 = .ok (.getfield 85, 3) := by decide +kernel
theorem jd_M_sift_115 : decode jb_M_sift 115 = .ok (.iadd, 1) := by decide +kernel
theorem jd_M_sift_116 : decode jb_M_sift 116 = .ok (.aload_n 0, 1) := by decide +kernel
theorem jd_M_sift_117 : decode jb_M_sift 117 = .ok (.getfield 17, 3) := by decide +kernel
theorem jd_M_sift_120 : decode jb_M_sift 120 = .ok (.sipush 128, 3) := by decide +kernel
theorem jd_M_sift_123 : decode jb_M_sift 123 = .ok (.iload_n 1, 1) := by decide +kernel
theorem jd_M_sift_124 : decode jb_M_sift 124 = .ok (.iadd, 1) := by decide +kernel
theorem jd_M_sift_125 : decode jb_M_sift 125 = .ok (.iaload, 1) := by decide +kernel
theorem jd_M_sift_126 : decode jb_M_sift 126 = .ok (.iastore, 1) := by decide +kernel
theorem jd_M_sift_127 : decode jb_M_sift 127 = .ok (.aload_n 0, 1) := by decide +kernel
theorem jd_M_sift_128 : decode jb_M_sift 128 = .ok (.dup, 1) := by decide +kernel
theorem jd_M_sift_129 : decode jb_M_sift 129 = .ok (.getfield 85, 3) := by decide +kernel
theorem jd_M_sift_132 : decode jb_M_sift 132 = .ok (.iconst 1, 1) := by decide +kernel
theorem jd_M_sift_133 : decode jb_M_sift 133 = .ok (.iadd, 1) := by decide +kernel
theorem jd_M_sift_134 : decode jb_M_sift 134 = .ok (.putfield 85, 3) := by decide +kernel
theorem jd_M_sift_137 : decode jb_M_sift 137 = .ok (.iinc 1 1, 3) := by decide +kernel
theorem jd_M_sift_140 : decode jb_M_sift 140 = .ok (.goto (-108), 3) := by decide +kernel
theorem jd_M_sift_143 : decode jb_M_sift 143 = .ok (.aload_n 0, 1) := by decide +kernel
theorem jd_M_sift_144 : decode jb_M_sift 144 = .ok (.getfield 85, 3) := by decide +kernel
theorem jd_M_sift_147 : decode jb_M_sift 147 = .ok (.ireturn, 1) := by decide +kernel
theorem jd_M_length_0 : decode jb_M_length 0 = .ok (.aload_n 0, 1) := by decide +kernel
theorem jd_M_length_1 : decode jb_M_length 1 = .ok (.iconst 0, 1) := by decide +kernel
theorem jd_M_length_2 : decode jb_M_length 2 = .ok (.putfield 66, 3) := by decide +kernel
theorem jd_M_length_5 : decode jb_M_length 5 = .ok (.aload_n 0, 1) := by decide +kernel
theorem jd_M_length_6 : decode jb_M_length 6 = .ok (.getfield 77, 3) := by decide +kernel
theorem jd_M_length_9 : decode jb_M_length 9 = .ok (.ifCond .eq 10, 3) := by decide +kernel
theorem jd_M_length_12 : decode jb_M_length 12 = .ok (.aload_n 0, 1) := by decide +kernel
theorem jd_M_length_13 : decode jb_M_length 13 = .ok (.getfield 85, 3) := by decide +kernel
theorem jd_M_length_16 : decode jb_M_length 16 = .ok (.goto 4, 3) := by decide +kernel
theorem jd_M_length_19 : decode jb_M_length 19 = .ok (.iconst (-1), 1) := by decide +kernel
theorem jd_M_length_20 : decode jb_M_length 20 = .ok (.ireturn, 1) := by decide +kernel
theorem jd_M_sample_0 : decode jb_M_sample 0 = .ok (.aload_n 0, 1) := by decide +kernel
theorem jd_M_sample_1 : decode jb_M_sample 1 = .ok (.aload_n 0, 1) := by decide +kernel
theorem jd_M_sample_2 : decode jb_M_sample 2 = .ok (.getfield 77, 3) := by decide +kernel
theorem jd_M_sample_5 : decode jb_M_sample 5 = .ok (.ifCond .eq 10, 3) := by decide +kernel
theorem jd_M_sample_8 : decode jb_M_sample 8 = .ok (.aload_n 0, 1) := by decide +kernel
theorem jd_M_sample_9 : decode jb_M_sample 9 = .ok (.getfield 104, 3) := by decide +kernel
theorem jd_M_sample_12 : decode jb_M_sample 12 = .ok (.ifCond .eq 7, 3) := by decide +kernel
theorem jd_M_sample_15 : decode jb_M_sample 15 = .ok (.iconst 1, 1) := by decide +kernel
theorem jd_M_sample_16 : decode jb_M_sample 16 = .ok (.goto 20, 3) := by decide +kernel
theorem jd_M_sample_19 : decode jb_M_sample 19 = .ok (.iload_n 3, 1) := by decide +kernel
theorem jd_M_sample_20 : decode jb_M_sample 20 = .ok (.iconst 0, 1) := by decide +kernel
theorem jd_M_sample_21 : decode jb_M_sample 21 = .ok (.aload_n 0, 1) := by decide +kernel
theorem jd_M_sample_22 : decode jb_M_sample 22 = .ok (.getfield 85, 3) := by decide +kernel
theorem jd_M_sample_25 : decode jb_M_sample 25 = .ok (.invokestatic 73, 3) := by decide +kernel
theorem jd_M_sample_28 : decode jb_M_sample 28 = .ok (.ifCond .ne 7, 3) := by decide +kernel
theorem jd_M_sample_31 : decode jb_M_sample 31 = .ok (.iconst 2, 1) := by decide +kernel
theorem jd_M_sample_32 : decode jb_M_sample 32 = .ok (.goto 4, 3) := by decide +kernel
theorem jd_M_sample_35 : decode jb_M_sample 35 = .ok (.iconst 0, 1) := by decide +kernel
theorem jd_M_sample_36 : decode jb_M_sample 36 = .ok (.putfield 66, 3) := by decide +kernel
theorem jd_M_sample_39 : decode jb_M_sample 39 = .ok (.aload_n 0, 1) := by decide +kernel
theorem jd_M_sample_40 : decode jb_M_sample 40 = .ok (.getfield 66, 3) := by decide +kernel
theorem jd_M_sample_43 : decode jb_M_sample 43 = .ok (.ifCond .le 5, 3) := by decide +kernel
theorem jd_M_sample_46 : decode jb_M_sample 46 = .ok (.iconst 0, 1) := by decide +kernel
theorem jd_M_sample_47 : decode jb_M_sample 47 = .ok (.ireturn, 1) := by decide +kernel
theorem jd_M_sample_48 : decode jb_M_sample 48 = .ok (.aload_n 0, 1) := by decide +kernel
theorem jd_M_sample_49 : decode jb_M_sample 49 = .ok (.aload_n 0, 1) := by decide +kernel
theorem jd_M_sample_50 : decode jb_M_sample 50 = .ok (.getfield 85, 3) := by decide +kernel
theorem jd_M_sample_53 : decode jb_M_sample 53 = .ok (.lload_n 1, 1) := by decide +kernel
theorem jd_M_sample_54 : decode jb_M_sample 54 = .ok (.invokevirtual 107, 3) := by decide +kernel
theorem jd_M_sample_57 : decode jb_M_sample 57 = .ok (.iconst 0, 1) := by decide +kernel
theorem jd_M_sample_58 : decode jb_M_sample 58 = .ok (.istore 4, 2) := by decide +kernel
theorem jd_M_sample_60 : decode jb_M_sample 60 = .ok (.iload 4, 2) := by decide +kernel
theorem jd_M_sample_62 : decode jb_M_sample 62 = .ok (.sipush 128, 3) := by decide +kernel
theorem jd_M_sample_65 : decode jb_M_sample 65 = .ok (.if_icmp .ge 17, 3) := by decide +kernel
theorem jd_M_sample_68 : decode jb_M_sample 68 = .ok (.aload_n 0, 1) := by decide +kernel
theorem jd_M_sample_69 : decode jb_M_sample 69 = .ok (.getfield 29, 3) := by decide +kernel
theorem jd_M_sample_72 : decode jb_M_sample 72 = .ok (.iload 4, 2) := by decide +kernel
theorem jd_M_sample_74 : decode jb_M_sample 74 = .ok (.iconst 0, 1) := by decide +kernel
theorem jd_M_sample_75 : decode jb_M_sample 75 = .ok (.bastore, 1) := by decide +kernel
theorem jd_M_sample_76 : decode jb_M_sample 76 = .ok (.iinc 4 1, 3) := by decide +kernel
theorem jd_M_sample_79 : decode jb_M_sample 79 = .ok (.goto (-19), 3) := by decide +kernel
theorem jd_M_sample_82 : decode jb_M_sample 82 = .ok (.iconst 0, 1) := by decide +kernel
theorem jd_M_sample_83 : decode jb_M_sample 83 = .ok (.istore 4, 2) := by decide +kernel
theorem jd_M_sample_85 : decode jb_M_sample 85 = .ok (.iconst 0, 1) := by decide +kernel
theorem jd_M_sample_86 : decode jb_M_sample 86 = .ok (.istore 5, 2) := by decide +kernel
theorem jd_M_sample_88 : decode jb_M_sample 88 = .ok (.iload 5, 2) := by decide +kernel
theorem jd_M_sample_90 : decode jb_M_sample 90 = .ok (.iload_n 3, 1) := by decide +kernel
theorem jd_M_sample_91 : decode jb_M_sample 91 = .ok (.if_icmp .ge 64, 3) := by decide +kernel
theorem jd_M_sample_94 : decode jb_M_sample 94 = .ok (.aload_n 0, 1) := by decide +kernel
theorem jd_M_sample_95 : decode jb_M_sample 95 = .ok (.getfield 29, 3) := by decide +kernel
theorem jd_M_sample_98 : decode jb_M_sample 98 = .ok (.aload_n 0, 1) := by decide +kernel
theorem jd_M_sample_99 : decode jb_M_sample 99 = .ok (.getfield 26, 3) := by decide +kernel
theorem jd_M_sample_102 : decode jb_M_sample 102 = .ok (.iload 5, 2) := by decide +kernel
theorem jd_M_sample_104 : decode jb_M_sample 104 = .ok (.iaload, 1) := by decide +kernel
theorem jd_M_sample_105 : decode jb_M_sample 105 = .ok (.iconst 1, 1) := by decide +kernel
theorem jd_M_sample_106 : decode jb_M_sample 106 = .ok (.bastore, 1) := by decide +kernel
theorem jd_M_sample_107 : decode jb_M_sample 107 = .ok (.aload_n 0, 1) := by decide +kernel
theorem jd_M_sample_108 : decode jb_M_sample 108 = .ok (.getfield 23, 3) := by decide +kernel
theorem jd_M_sample_111 : decode jb_M_sample 111 = .ok (.aload_n 0, 1) := by decide +kernel
theorem jd_M_sample_112 : decode jb_M_sample 112 = .ok (.getfield 26, 3) := by decide +kernel
theorem jd_M_sample_115 : decode jb_M_sample 115 = .ok (.iload 5, 2) := by decide +kernel
theorem jd_M_sample_117 : decode jb_M_sample 117 = .ok (.iaload, 1) := by decide +kernel
theorem jd_M_sample_118 : decode jb_M_sample 118 = .ok (.iaload, 1) := by decide +kernel
theorem jd_M_sample_119 : decode jb_M_sample 119 = .ok (.aload_n 0, 1) := by decide +kernel
theorem jd_M_sample_120 : decode jb_M_sample 120 = .ok (.getfield 23, 3) := by decide +kernel
theorem jd_M_sample_123 : decode jb_M_sample 123 = .ok (.sipush 128, 3) := by decide +kernel
theorem jd_M_sample_126 : decode jb_M_sample 126 = .ok (.aload_n 0, 1) := by decide +kernel
theorem jd_M_sample_127 : decode jb_M_sample 127 = .ok (.getfield 26, 3) := by decide +kernel
theorem jd_M_sample_130 : decode jb_M_sample 130 = .ok (.iload 5, 2) := by decide +kernel
theorem jd_M_sample_132 : decode jb_M_sample 132 = .ok (.iaload, 1) := by decide +kernel
theorem jd_M_sample_133 : decode jb_M_sample 133 = .ok (.iadd, 1) := by decide +kernel
theorem jd_M_sample_134 : decode jb_M_sample 134 = .ok (.iaload, 1) := by decide +kernel
theorem jd_M_sample_135 : decode jb_M_sample 135 = .ok (.if_icmp .eq 10, 3) := by decide +kernel
theorem jd_M_sample_138 : decode jb_M_sample 138 = .ok (.iload 4, 2) := by decide +kernel
theorem jd_M_sample_140 : decode jb_M_sample 140 = .ok (.iconst 1, 1) := by decide +kernel
theorem jd_M_sample_141 : decode jb_M_sample 141 = .ok (.iadd, 1) := by decide +kernel
theorem jd_M_sample_142 : decode jb_M_sample 142 = .ok (.goto 5, 3) := by decide +kernel
theorem jd_M_sample_145 : decode jb_M_sample 145 = .ok (.iload 4, 2) := by decide +kernel
theorem jd_M_sample_147 : decode jb_M_sample 147 = .ok (.istore 4, 2) := by decide +kernel
theorem jd_M_sample_149 : decode jb_M_sample 149 = .ok (.iinc 5 1, 3) := by decide +kernel
theorem jd_M_sample_152 : decode jb_M_sample 152 = .ok (.goto (-64), 3) := by decide +kernel
theorem jd_M_sample_155 : decode jb_M_sample 155 = .ok (.iconst 0, 1) := by decide +kernel
theorem jd_M_sample_156 : decode jb_M_sample 156 = .ok (.istore 5, 2) := by decide +kernel
theorem jd_M_sample_158 : decode jb_M_sample 158 = .ok (.iconst 0, 1) := by decide +kernel
theorem jd_M_sample_159 : decode jb_M_sample 159 = .ok (.istore 6, 2) := by decide +kernel
theorem jd_M_sample_161 : decode jb_M_sample 161 = .ok (.iload 6, 2) := by decide +kernel
theorem jd_M_sample_163 : decode jb_M_sample 163 = .ok (.aload_n 0, 1) := by decide +kernel
theorem jd_M_sample_164 : decode jb_M_sample 164 = .ok (.getfield 85, 3) := by decide +kernel
theorem jd_M_sample_167 : decode jb_M_sample 167 = .ok (.if_icmp .ge 58, 3) := by decide +kernel
theorem jd_M_sample_170 : decode jb_M_sample 170 = .ok (.aload_n 0, 1) := by decide +kernel
theorem jd_M_sample_171 : decode jb_M_sample 171 = .ok (.getfield 29, 3) := by decide +kernel
theorem jd_M_sample_174 : decode jb_M_sample 174 = .ok (.iload 6, 2) := by decide +kernel
theorem jd_M_sample_176 : decode jb_M_sample 176 = .ok (.baload, 1) := by decide +kernel
theorem jd_M_sample_177 : decode jb_M_sample 177 = .ok (.ifCond .ne 42, 3) := by decide +kernel
theorem jd_M_sample_180 : decode jb_M_sample 180 = .ok (.aload_n 0, 1) := by decide +kernel
theorem jd_M_sample_181 : decode jb_M_sample 181 = .ok (.getfield 23, 3) := by decide +kernel
theorem jd_M_sample_184 : decode jb_M_sample 184 = .ok (.iload 5, 2) := by decide +kernel
theorem jd_M_sample_186 : decode jb_M_sample 186 = .ok (.aload_n 0, 1) := by decide +kernel
theorem jd_M_sample_187 : decode jb_M_sample 187 = .ok (.getfield 23, 3) := by decide +kernel
theorem jd_M_sample_190 : decode jb_M_sample 190 = .ok (.iload 6, 2) := by decide +kernel
theorem jd_M_sample_192 : decode jb_M_sample 192 = .ok (.iaload, 1) := by decide +kernel
theorem jd_M_sample_193 : decode jb_M_sample 193 = .ok (.iastore, 1) := by decide +kernel
theorem jd_M_sample_194 : decode jb_M_sample 194 = .ok (.aload_n 0, 1) := by decide +kernel
theorem jd_M_sample_195 : decode jb_M_sample 195 = .ok (.getfield 23, 3) := by decide +kernel
theorem jd_M_sample_198 : decode jb_M_sample 198 = .ok (.sipush 128, 3) := by decide +kernel
theorem jd_M_sample_201 : decode jb_M_sample 201 = .ok (.iload 5, 2) := by decide +kernel
theorem jd_M_sample_203 : decode jb_M_sample 203 = .ok (.iadd, 1) := by decide +kernel
theorem jd_M_sample_204 : decode jb_M_sample 204 = .ok (.aload_n 0, 1) := by decide +kernel
theorem jd_M_sample_205 : decode jb_M_sample 205 = .ok (.getfield 23, 3) := by decide +kernel
theorem jd_M_sample_208 : decode jb_M_sample 208 = .ok (.sipush 128, 3) := by decide +kernel
theorem jd_M_sample_211 : decode jb_M_sample 211 = .ok (.iload 6, 2) := by decide +kernel
theorem jd_M_sample_213 : decode jb_M_sample 213 = .ok (.iadd, 1) := by decide +kernel
theorem jd_M_sample_214 : decode jb_M_sample 214 = .ok (.iaload, 1) := by decide +kernel
theorem jd_M_sample_215 : decode jb_M_sample 215 = .ok (.iastore, 1) := by decide +kernel
theorem jd_M_sample_216 : decode jb_M_sample 216 = .ok (.iinc 5 1, 3) := by decide +kernel
theorem jd_M_sample_219 : decode jb_M_sample 219 = .ok (.iinc 6 1, 3) := by decide +kernel
theorem jd_M_sample_222 : decode jb_M_sample 222 = .ok (.goto (-61), 3) := by decide +kernel
theorem jd_M_sample_225 : decode jb_M_sample 225 = .ok (.aload_n 0, 1) := by decide +kernel
theorem jd_M_sample_226 : decode jb_M_sample 226 = .ok (.iload 5, 2) := by decide +kernel
theorem jd_M_sample_228 : decode jb_M_sample 228 = .ok (.putfield 85, 3) := by decide +kernel
theorem jd_M_sample_231 : decode jb_M_sample 231 = .ok (.aload_n 0, 1) := by decide +kernel
theorem jd_M_sample_232 : decode jb_M_sample 232 = .ok (.aload_n 0, 1) := by decide +kernel
theorem jd_M_sample_233 : decode jb_M_sample 233 = .ok (.getfield 111, 3) := by decide +kernel
theorem jd_M_sample_236 : decode jb_M_sample 236 = .ok (.iload_n 3, 1) := by decide +kernel
theorem jd_M_sample_237 : decode jb_M_sample 237 = .ok (.iadd, 1) := by decide +kernel
theorem jd_M_sample_238 : decode jb_M_sample 238 = .ok (.putfield 111, 3) := by decide +kernel
theorem jd_M_sample_241 : decode jb_M_sample 241 = .ok (.aload_n 0, 1) := by decide +kernel
theorem jd_M_sample_242 : decode jb_M_sample 242 = .ok (.aload_n 0, 1) := by decide +kernel
theorem jd_M_sample_243 : decode jb_M_sample 243 = .ok (.getfield 114, 3) := by decide +kernel
theorem jd_M_sample_246 : decode jb_M_sample 246 = .ok (.iload 4, 2) := by decide +kernel
theorem jd_M_sample_248 : decode jb_M_sample 248 = .ok (.iadd, 1) := by decide +kernel
theorem jd_M_sample_249 : decode jb_M_sample 249 = .ok (.putfield 114, 3) := by decide +kernel
theorem jd_M_sample_252 : decode jb_M_sample 252 = .ok (.iload 4, 2) := by decide +kernel
theorem jd_M_sample_254 : decode jb_M_sample 254 = .ok (.ireturn, 1) := by decide +kernel
theorem jd_M_shuffle_0 : decode jb_M_shuffle 0 = .ok (.aload_n 0, 1) := by decide +kernel
theorem jd_M_shuffle_1 : decode jb_M_shuffle 1 = .ok (.lload_n 2, 1) := by decide +kernel
theorem jd_M_shuffle_2 : decode jb_M_shuffle 2 = .ok (.putfield 88, 3) := by decide +kernel
theorem jd_M_shuffle_5 : decode jb_M_shuffle 5 = .ok (.iconst 0, 1) := by decide +kernel
theorem jd_M_shuffle_6 : decode jb_M_shuffle 6 = .ok (.istore 4, 2) := by decide +kernel
theorem jd_M_shuffle_8 : decode jb_M_shuffle 8 = .ok (.iload 4, 2) := by decide +kernel
theorem jd_M_shuffle_10 : decode jb_M_shuffle 10 = .ok (.iload_n 1, 1) := by decide +kernel
theorem jd_M_shuffle_11 : decode jb_M_shuffle 11 = .ok (.if_icmp .ge 18, 3) := by decide +kernel
theorem jd_M_shuffle_14 : decode jb_M_shuffle 14 = .ok (.aload_n 0, 1) := by decide +kernel
theorem jd_M_shuffle_15 : decode jb_M_shuffle 15 = .ok (.getfield 26, 3) := by decide +kernel
theorem jd_M_shuffle_18 : decode jb_M_shuffle 18 = .ok (.iload 4, 2) := by decide +kernel
theorem jd_M_shuffle_20 : decode jb_M_shuffle 20 = .ok (.iload 4, 2) := by decide +kernel
theorem jd_M_shuffle_22 : decode jb_M_shuffle 22 = .ok (.iastore, 1) := by decide +kernel
theorem jd_M_shuffle_23 : decode jb_M_shuffle 23 = .ok (.iinc 4 1, 3) := by decide +kernel
theorem jd_M_shuffle_26 : decode jb_M_shuffle 26 = .ok (.goto (-18), 3) := by decide +kernel
theorem jd_M_shuffle_29 : decode jb_M_shuffle 29 = .ok (.iload_n 1, 1) := by decide +kernel
theorem jd_M_shuffle_30 : decode jb_M_shuffle 30 = .ok (.iconst 1, 1) := by decide +kernel
theorem jd_M_shuffle_31 : decode jb_M_shuffle 31 = .ok (.isub, 1) := by decide +kernel
theorem jd_M_shuffle_32 : decode jb_M_shuffle 32 = .ok (.istore 4, 2) := by decide +kernel
theorem jd_M_shuffle_34 : decode jb_M_shuffle 34 = .ok (.iload 4, 2) := by decide +kernel
theorem jd_M_shuffle_36 : decode jb_M_shuffle 36 = .ok (.iconst 1, 1) := by decide +kernel
theorem jd_M_shuffle_37 : decode jb_M_shuffle 37 = .ok (.if_icmp .lt 51, 3) := by decide +kernel
theorem jd_M_shuffle_40 : decode jb_M_shuffle 40 = .ok (.aload_n 0, 1) := by decide +kernel
theorem jd_M_shuffle_41 : decode jb_M_shuffle 41 = .ok (.iload 4, 2) := by decide +kernel
theorem jd_M_shuffle_43 : decode jb_M_shuffle 43 = .ok (.iconst 1, 1) := by decide +kernel
theorem jd_M_shuffle_44 : decode jb_M_shuffle 44 = .ok (.iadd, 1) := by decide +kernel
theorem jd_M_shuffle_45 : decode jb_M_shuffle 45 = .ok (.invokevirtual 101, 3) := by decide +kernel
theorem jd_M_shuffle_48 : decode jb_M_shuffle 48 = .ok (.istore 5, 2) := by decide +kernel
theorem jd_M_shuffle_50 : decode jb_M_shuffle 50 = .ok (.aload_n 0, 1) := by decide +kernel
theorem jd_M_shuffle_51 : decode jb_M_shuffle 51 = .ok (.getfield 26, 3) := by decide +kernel
theorem jd_M_shuffle_54 : decode jb_M_shuffle 54 = .ok (.iload 4, 2) := by decide +kernel
theorem jd_M_shuffle_56 : decode jb_M_shuffle 56 = .ok (.iaload, 1) := by decide +kernel
theorem jd_M_shuffle_57 : decode jb_M_shuffle 57 = .ok (.istore 6, 2) := by decide +kernel
theorem jd_M_shuffle_59 : decode jb_M_shuffle 59 = .ok (.aload_n 0, 1) := by decide +kernel
theorem jd_M_shuffle_60 : decode jb_M_shuffle 60 = .ok (.getfield 26, 3) := by decide +kernel
theorem jd_M_shuffle_63 : decode jb_M_shuffle 63 = .ok (.iload 4, 2) := by decide +kernel
theorem jd_M_shuffle_65 : decode jb_M_shuffle 65 = .ok (.aload_n 0, 1) := by decide +kernel
theorem jd_M_shuffle_66 : decode jb_M_shuffle 66 = .ok (.getfield 26, 3) := by decide +kernel
theorem jd_M_shuffle_69 : decode jb_M_shuffle 69 = .ok (.iload 5, 2) := by decide +kernel
theorem jd_M_shuffle_71 : decode jb_M_shuffle 71 = .ok (.iaload, 1) := by decide +kernel
theorem jd_M_shuffle_72 : decode jb_M_shuffle 72 = .ok (.iastore, 1) := by decide +kernel
theorem jd_M_shuffle_73 : decode jb_M_shuffle 73 = .ok (.aload_n 0, 1) := by decide +kernel
theorem jd_M_shuffle_74 : decode jb_M_shuffle 74 = .ok (.getfield 26, 3) := by decide +kernel
theorem jd_M_shuffle_77 : decode jb_M_shuffle 77 = .ok (.iload 5, 2) := by decide +kernel
theorem jd_M_shuffle_79 : decode jb_M_shuffle 79 = .ok (.iload 6, 2) := by decide +kernel
theorem jd_M_shuffle_81 : decode jb_M_shuffle 81 = .ok (.iastore, 1) := by decide +kernel
theorem jd_M_shuffle_82 : decode jb_M_shuffle 82 = .ok (.iinc 4 (-1), 3) := by decide +kernel
theorem jd_M_shuffle_85 : decode jb_M_shuffle 85 = .ok (.goto (-51), 3) := by decide +kernel
theorem jd_M_shuffle_88 : decode jb_M_shuffle 88 = .ok (.return_, 1) := by decide +kernel
theorem jd_M_draw_0 : decode jb_M_draw 0 = .ok (.ldc2_w 96, 3) := by decide +kernel
theorem jd_M_draw_3 : decode jb_M_draw 3 = .ok (.lstore_n 2, 1) := by decide +kernel
theorem jd_M_draw_4 : decode jb_M_draw 4 = .ok (.lload_n 2, 1) := by decide +kernel
theorem jd_M_draw_5 : decode jb_M_draw 5 = .ok (.lload_n 2, 1) := by decide +kernel
theorem jd_M_draw_6 : decode jb_M_draw 6 = .ok (.iload_n 1, 1) := by decide +kernel
theorem jd_M_draw_7 : decode jb_M_draw 7 = .ok (.i2l, 1) := by decide +kernel
theorem jd_M_draw_8 : decode jb_M_draw 8 = .ok (.lrem, 1) := by decide +kernel
theorem jd_M_draw_9 : decode jb_M_draw 9 = .ok (.lsub, 1) := by decide +kernel
theorem jd_M_draw_10 : decode jb_M_draw 10 = .ok (.lstore 4, 2) := by decide +kernel
theorem jd_M_draw_12 : decode jb_M_draw 12 = .ok (.lload 4, 2) := by decide +kernel
theorem jd_M_draw_14 : decode jb_M_draw 14 = .ok (.lstore 6, 2) := by decide +kernel
theorem jd_M_draw_16 : decode jb_M_draw 16 = .ok (.lload 6, 2) := by decide +kernel
theorem jd_M_draw_18 : decode jb_M_draw 18 = .ok (.lload 4, 2) := by decide +kernel
theorem jd_M_draw_20 : decode jb_M_draw 20 = .ok (.lcmp, 1) := by decide +kernel
theorem jd_M_draw_21 : decode jb_M_draw 21 = .ok (.ifCond .lt 19, 3) := by decide +kernel
theorem jd_M_draw_24 : decode jb_M_draw 24 = .ok (.aload_n 0, 1) := by decide +kernel
theorem jd_M_draw_25 : decode jb_M_draw 25 = .ok (.invokevirtual 98, 3) := by decide +kernel
theorem jd_M_draw_28 : decode jb_M_draw 28 = .ok (.aload_n 0, 1) := by decide +kernel
theorem jd_M_draw_29 : decode jb_M_draw 29 = .ok (.getfield 88, 3) := by decide +kernel
theorem jd_M_draw_32 : decode jb_M_draw 32 = .ok (.bipush 33, 2) := by decide +kernel
theorem jd_M_draw_34 : decode jb_M_draw 34 = .ok (.lushr, 1) := by decide +kernel
theorem jd_M_draw_35 : decode jb_M_draw 35 = .ok (.lstore 6, 2) := by decide +kernel
theorem jd_M_draw_37 : decode jb_M_draw 37 = .ok (.goto (-21), 3) := by decide +kernel
theorem jd_M_draw_40 : decode jb_M_draw 40 = .ok (.lload 6, 2) := by decide +kernel
theorem jd_M_draw_42 : decode jb_M_draw 42 = .ok (.iload_n 1, 1) := by decide +kernel
theorem jd_M_draw_43 : decode jb_M_draw 43 = .ok (.i2l, 1) := by decide +kernel
theorem jd_M_draw_44 : decode jb_M_draw 44 = .ok (.lrem, 1) := by decide +kernel
theorem jd_M_draw_45 : decode jb_M_draw 45 = .ok (.l2i, 1) := by decide +kernel
theorem jd_M_draw_46 : decode jb_M_draw 46 = .ok (.ireturn, 1) := by decide +kernel
theorem jd_M_turn_0 : decode jb_M_turn 0 = .ok (.aload_n 0, 1) := by decide +kernel
theorem jd_M_turn_1 : decode jb_M_turn 1 = .ok (.aload_n 0, 1) := by decide +kernel
theorem jd_M_turn_2 : decode jb_M_turn 2 = .ok (.getfield 88, 3) := by decide +kernel
theorem jd_M_turn_5 : decode jb_M_turn 5 = .ok (.ldc2_w 92, 3) := by decide +kernel
theorem jd_M_turn_8 : decode jb_M_turn 8 = .ok (.lmul, 1) := by decide +kernel
theorem jd_M_turn_9 : decode jb_M_turn 9 = .ok (.ldc2_w 94, 3) := by decide +kernel
theorem jd_M_turn_12 : decode jb_M_turn 12 = .ok (.ladd, 1) := by decide +kernel
theorem jd_M_turn_13 : decode jb_M_turn 13 = .ok (.putfield 88, 3) := by decide +kernel
theorem jd_M_turn_16 : decode jb_M_turn 16 = .ok (.return_, 1) := by decide +kernel
theorem jd_M_sampled_0 : decode jb_M_sampled 0 = .ok (.aload_n 0, 1) := by decide +kernel
theorem jd_M_sampled_1 : decode jb_M_sampled 1 = .ok (.iconst 0, 1) := by decide +kernel
theorem jd_M_sampled_2 : decode jb_M_sampled 2 = .ok (.putfield 66, 3) := by decide +kernel
theorem jd_M_sampled_5 : decode jb_M_sampled 5 = .ok (.iload_n 1, 1) := by decide +kernel
theorem jd_M_sampled_6 : decode jb_M_sampled 6 = .ok (.ifCond .ne 10, 3) := by decide +kernel
theorem jd_M_sampled_9 : decode jb_M_sampled 9 = .ok (.aload_n 0, 1) := by decide +kernel
theorem jd_M_sampled_10 : decode jb_M_sampled 10 = .ok (.getfield 111, 3) := by decide +kernel
theorem jd_M_sampled_13 : decode jb_M_sampled 13 = .ok (.goto 16, 3) := by decide +kernel
theorem jd_M_sampled_16 : decode jb_M_sampled 16 = .ok (.iload_n 1, 1) := by decide +kernel
theorem jd_M_sampled_17 : decode jb_M_sampled 17 = .ok (.iconst 1, 1) := by decide +kernel
theorem jd_M_sampled_18 : decode jb_M_sampled 18 = .ok (.if_icmp .ne 10, 3) := by decide +kernel
theorem jd_M_sampled_21 : decode jb_M_sampled 21 = .ok (.aload_n 0, 1) := by decide +kernel
theorem jd_M_sampled_22 : decode jb_M_sampled 22 = .ok (.getfield 114, 3) := by decide +kernel
theorem jd_M_sampled_25 : decode jb_M_sampled 25 = .ok (.goto 4, 3) := by decide +kernel
theorem jd_M_sampled_28 : decode jb_M_sampled 28 = .ok (.iconst (-1), 1) := by decide +kernel
theorem jd_M_sampled_29 : decode jb_M_sampled 29 = .ok (.ireturn, 1) := by decide +kernel
theorem jd_M_start_0 : decode jb_M_start 0 = .ok (.aload_n 0, 1) := by decide +kernel
theorem jd_M_start_1 : decode jb_M_start 1 = .ok (.aload_n 0, 1) := by decide +kernel
theorem jd_M_start_2 : decode jb_M_start 2 = .ok (.getfield 77, 3) := by decide +kernel
theorem jd_M_start_5 : decode jb_M_start 5 = .ok (.ifCond .eq 10, 3) := by decide +kernel
theorem jd_M_start_8 : decode jb_M_start 8 = .ok (.aload_n 0, 1) := by decide +kernel
theorem jd_M_start_9 : decode jb_M_start 9 = .ok (.getfield 104, 3) := by decide +kernel
theorem jd_M_start_12 : decode jb_M_start 12 = .ok (.ifCond .eq 7, 3) := by decide +kernel
theorem jd_M_start_15 : decode jb_M_start 15 = .ok (.iconst 1, 1) := by decide +kernel
theorem jd_M_start_16 : decode jb_M_start 16 = .ok (.goto 20, 3) := by decide +kernel
theorem jd_M_start_19 : decode jb_M_start 19 = .ok (.iload_n 1, 1) := by decide +kernel
theorem jd_M_start_20 : decode jb_M_start 20 = .ok (.iconst 4, 1) := by decide +kernel
theorem jd_M_start_21 : decode jb_M_start 21 = .ok (.aload_n 0, 1) := by decide +kernel
theorem jd_M_start_22 : decode jb_M_start 22 = .ok (.getfield 85, 3) := by decide +kernel
theorem jd_M_start_25 : decode jb_M_start 25 = .ok (.invokestatic 73, 3) := by decide +kernel
theorem jd_M_start_28 : decode jb_M_start 28 = .ok (.ifCond .ne 7, 3) := by decide +kernel
theorem jd_M_start_31 : decode jb_M_start 31 = .ok (.iconst 2, 1) := by decide +kernel
theorem jd_M_start_32 : decode jb_M_start 32 = .ok (.goto 4, 3) := by decide +kernel
theorem jd_M_start_35 : decode jb_M_start 35 = .ok (.iconst 0, 1) := by decide +kernel
theorem jd_M_start_36 : decode jb_M_start 36 = .ok (.putfield 66, 3) := by decide +kernel
theorem jd_M_start_39 : decode jb_M_start 39 = .ok (.aload_n 0, 1) := by decide +kernel
theorem jd_M_start_40 : decode jb_M_start 40 = .ok (.getfield 66, 3) := by decide +kernel
theorem jd_M_start_43 : decode jb_M_start 43 = .ok (.ifCond .le 5, 3) := by decide +kernel
theorem jd_M_start_46 : decode jb_M_start 46 = .ok (.iconst 0, 1) := by decide +kernel
theorem jd_M_start_47 : decode jb_M_start 47 = .ok (.ireturn, 1) := by decide +kernel
theorem jd_M_start_48 : decode jb_M_start 48 = .ok (.aload_n 0, 1) := by decide +kernel
theorem jd_M_start_49 : decode jb_M_start 49 = .ok (.iconst 1, 1) := by decide +kernel
theorem jd_M_start_50 : decode jb_M_start 50 = .ok (.putfield 104, 3) := by decide +kernel
theorem jd_M_start_53 : decode jb_M_start 53 = .ok (.aload_n 0, 1) := by decide +kernel
theorem jd_M_start_54 : decode jb_M_start 54 = .ok (.iload_n 1, 1) := by decide +kernel
theorem jd_M_start_55 : decode jb_M_start 55 = .ok (.putfield 117, 3) := by decide +kernel
theorem jd_M_start_58 : decode jb_M_start 58 = .ok (.aload_n 0, 1) := by decide +kernel
theorem jd_M_start_59 : decode jb_M_start 59 = .ok (.iconst 0, 1) := by decide +kernel
theorem jd_M_start_60 : decode jb_M_start 60 = .ok (.putfield 32, 3) := by decide +kernel
theorem jd_M_start_63 : decode jb_M_start 63 = .ok (.iconst 0, 1) := by decide +kernel
theorem jd_M_start_64 : decode jb_M_start 64 = .ok (.istore 4, 2) := by decide +kernel
theorem jd_M_start_66 : decode jb_M_start 66 = .ok (.iload 4, 2) := by decide +kernel
theorem jd_M_start_68 : decode jb_M_start 68 = .ok (.iconst 4, 1) := by decide +kernel
theorem jd_M_start_69 : decode jb_M_start 69 = .ok (.if_icmp .ge 61, 3) := by decide +kernel
theorem jd_M_start_72 : decode jb_M_start 72 = .ok (.aload_n 0, 1) := by decide +kernel
theorem jd_M_start_73 : decode jb_M_start 73 = .ok (.aload_n 0, 1) := by decide +kernel
theorem jd_M_start_74 : decode jb_M_start 74 = .ok (.getfield 85, 3) := by decide +kernel
theorem jd_M_start_77 : decode jb_M_start 77 = .ok (.lload_n 2, 1) := by decide +kernel
theorem jd_M_start_78 : decode jb_M_start 78 = .ok (.iload 4, 2) := by decide +kernel
theorem jd_M_start_80 : decode jb_M_start 80 = .ok (.i2l, 1) := by decide +kernel
theorem jd_M_start_81 : decode jb_M_start 81 = .ok (.ladd, 1) := by decide +kernel
theorem jd_M_start_82 : decode jb_M_start 82 = .ok (.invokevirtual 107, 3) := by decide +kernel
theorem jd_M_start_85 : decode jb_M_start 85 = .ok (.iconst 0, 1) := by decide +kernel
theorem jd_M_start_86 : decode jb_M_start 86 = .ok (.istore 5, 2) := by decide +kernel
theorem jd_M_start_88 : decode jb_M_start 88 = .ok (.iload 5, 2) := by decide +kernel
theorem jd_M_start_90 : decode jb_M_start 90 = .ok (.aload_n 0, 1) := by decide +kernel
theorem jd_M_start_91 : decode jb_M_start 91 = .ok (.getfield 85, 3) := by decide +kernel
theorem jd_M_start_94 : decode jb_M_start 94 = .ok (.if_icmp .ge 30, 3) := by decide +kernel
theorem jd_M_start_97 : decode jb_M_start 97 = .ok (.aload_n 0, 1) := by decide +kernel
theorem jd_M_start_98 : decode jb_M_start 98 = .ok (.getfield 36, 3) := by decide +kernel
theorem jd_M_start_101 : decode jb_M_start 101 = .ok (.sipush 128, 3) := by decide +kernel
theorem jd_M_start_104 : decode jb_M_start 104 = .ok (.iload 4, 2) := by decide +kernel
theorem jd_M_start_106 : decode jb_M_start 106 = .ok (.imul, 1) := by decide +kernel
theorem jd_M_start_107 : decode jb_M_start 107 = .ok (.iload 5, 2) := by decide +kernel
theorem jd_M_start_109 : decode jb_M_start 109 = .ok (.iadd, 1) := by decide +kernel
theorem jd_M_start_110 : decode jb_M_start 110 = .ok (.aload_n 0, 1) := by decide +kernel
theorem jd_M_start_111 : decode jb_M_start 111 = .ok (.getfield 26, 3) := by decide +kernel
theorem jd_M_start_114 : decode jb_M_start 114 = .ok (.iload 5, 2) := by decide +kernel
theorem jd_M_start_116 : decode jb_M_start 116 = .ok (.iaload, 1) := by decide +kernel
theorem jd_M_start_117 : decode jb_M_start 117 = .ok (.iastore, 1) := by decide +kernel
theorem jd_M_start_118 : decode jb_M_start 118 = .ok (.iinc 5 1, 3) := by decide +kernel
theorem jd_M_start_121 : decode jb_M_start 121 = .ok (.goto (-33), 3) := by decide +kernel
theorem jd_M_start_124 : decode jb_M_start 124 = .ok (.iinc 4 1, 3) := by decide +kernel
theorem jd_M_start_127 : decode jb_M_start 127 = .ok (.goto (-61), 3) := by decide +kernel
theorem jd_M_start_130 : decode jb_M_start 130 = .ok (.aload_n 0, 1) := by decide +kernel
theorem jd_M_start_131 : decode jb_M_start 131 = .ok (.invokevirtual 120, 3) := by decide +kernel
theorem jd_M_start_134 : decode jb_M_start 134 = .ok (.aload_n 0, 1) := by decide +kernel
theorem jd_M_start_135 : decode jb_M_start 135 = .ok (.getfield 123, 3) := by decide +kernel
theorem jd_M_start_138 : decode jb_M_start 138 = .ok (.ireturn, 1) := by decide +kernel
theorem jd_M_goOn_0 : decode jb_M_goOn 0 = .ok (.iconst 1, 1) := by decide +kernel
theorem jd_M_goOn_1 : decode jb_M_goOn 1 = .ok (.istore_n 1, 1) := by decide +kernel
theorem jd_M_goOn_2 : decode jb_M_goOn 2 = .ok (.iload_n 1, 1) := by decide +kernel
theorem jd_M_goOn_3 : decode jb_M_goOn 3 = .ok (.ifCond .eq 68, 3) := by decide +kernel
theorem jd_M_goOn_6 : decode jb_M_goOn 6 = .ok (.aload_n 0, 1) := by decide +kernel
theorem jd_M_goOn_7 : decode jb_M_goOn 7 = .ok (.getfield 32, 3) := by decide +kernel
theorem jd_M_goOn_10 : decode jb_M_goOn 10 = .ok (.iconst 4, 1) := by decide +kernel
theorem jd_M_goOn_11 : decode jb_M_goOn 11 = .ok (.if_icmp .eq 10, 3) := by decide +kernel
theorem jd_M_goOn_14 : decode jb_M_goOn 14 = .ok (.aload_n 0, 1) := by decide +kernel
theorem jd_M_goOn_15 : decode jb_M_goOn 15 = .ok (.invokevirtual 155, 3) := by decide +kernel
theorem jd_M_goOn_18 : decode jb_M_goOn 18 = .ok (.ifCond .eq 4, 3) := by decide +kernel
theorem jd_M_goOn_21 : decode jb_M_goOn 21 = .ok (.return_, 1) := by decide +kernel
theorem jd_M_goOn_22 : decode jb_M_goOn 22 = .ok (.iconst 1, 1) := by decide +kernel
theorem jd_M_goOn_23 : decode jb_M_goOn 23 = .ok (.istore_n 2, 1) := by decide +kernel
theorem jd_M_goOn_24 : decode jb_M_goOn 24 = .ok (.iload_n 2, 1) := by decide +kernel
theorem jd_M_goOn_25 : decode jb_M_goOn 25 = .ok (.iconst 1, 1) := by decide +kernel
theorem jd_M_goOn_26 : decode jb_M_goOn 26 = .ok (.if_icmp .ne 11, 3) := by decide +kernel
theorem jd_M_goOn_29 : decode jb_M_goOn 29 = .ok (.aload_n 0, 1) := by decide +kernel
theorem jd_M_goOn_30 : decode jb_M_goOn 30 = .ok (.invokevirtual 159, 3) := by decide +kernel
theorem jd_M_goOn_33 : decode jb_M_goOn 33 = .ok (.istore_n 2, 1) := by decide +kernel
theorem jd_M_goOn_34 : decode jb_M_goOn 34 = .ok (.goto (-10), 3) := by decide +kernel
theorem jd_M_goOn_37 : decode jb_M_goOn 37 = .ok (.iload_n 2, 1) := by decide +kernel
theorem jd_M_goOn_38 : decode jb_M_goOn 38 = .ok (.ifCond .ne 7, 3) := by decide +kernel
theorem jd_M_goOn_41 : decode jb_M_goOn 41 = .ok (.iconst 1, 1) := by decide +kernel
theorem jd_M_goOn_42 : decode jb_M_goOn 42 = .ok (.goto 4, 3) := by decide +kernel
theorem jd_M_goOn_45 : decode jb_M_goOn 45 = .ok (.iconst 0, 1) := by decide +kernel
theorem jd_M_goOn_46 : decode jb_M_goOn 46 = .ok (.istore_n 1, 1) := by decide +kernel
theorem jd_M_goOn_47 : decode jb_M_goOn 47 = .ok (.aload_n 0, 1) := by decide +kernel
theorem jd_M_goOn_48 : decode jb_M_goOn 48 = .ok (.iload_n 2, 1) := by decide +kernel
theorem jd_M_goOn_49 : decode jb_M_goOn 49 = .ok (.ifCond .ne 12, 3) := by decide +kernel
theorem jd_M_goOn_52 : decode jb_M_goOn 52 = .ok (.aload_n 0, 1) := by decide +kernel
theorem jd_M_goOn_53 : decode jb_M_goOn 53 = .ok (.getfield 32, 3) := by decide +kernel
theorem jd_M_goOn_56 : decode jb_M_goOn 56 = .ok (.iconst 1, 1) := by decide +kernel
theorem jd_M_goOn_57 : decode jb_M_goOn 57 = .ok (.iadd, 1) := by decide +kernel
theorem jd_M_goOn_58 : decode jb_M_goOn 58 = .ok (.goto 7, 3) := by decide +kernel
theorem jd_M_goOn_61 : decode jb_M_goOn 61 = .ok (.aload_n 0, 1) := by decide +kernel
theorem jd_M_goOn_62 : decode jb_M_goOn 62 = .ok (.getfield 32, 3) := by decide +kernel
theorem jd_M_goOn_65 : decode jb_M_goOn 65 = .ok (.putfield 32, 3) := by decide +kernel
theorem jd_M_goOn_68 : decode jb_M_goOn 68 = .ok (.goto (-66), 3) := by decide +kernel
theorem jd_M_goOn_71 : decode jb_M_goOn 71 = .ok (.return_, 1) := by decide +kernel
theorem jd_M_asksForBlock_0 : decode jb_M_asksForBlock 0 = .ok (.iconst 0, 1) := by decide +kernel
theorem jd_M_asksForBlock_1 : decode jb_M_asksForBlock 1 = .ok (.istore_n 1, 1) := by decide +kernel
theorem jd_M_asksForBlock_2 : decode jb_M_asksForBlock 2 = .ok (.iload_n 1, 1) := by decide +kernel
theorem jd_M_asksForBlock_3 : decode jb_M_asksForBlock 3 = .ok (.aload_n 0, 1) := by decide +kernel
theorem jd_M_asksForBlock_4 : decode jb_M_asksForBlock 4 = .ok (.getfield 85, 3) := by decide +kernel
theorem jd_M_asksForBlock_7 : decode jb_M_asksForBlock 7 = .ok (.if_icmp .ge 59, 3) := by decide +kernel
theorem jd_M_asksForBlock_10 : decode jb_M_asksForBlock 10 = .ok (.aload_n 0, 1) := by decide +kernel
theorem jd_M_asksForBlock_11 : decode jb_M_asksForBlock 11 = .ok (.aload_n 0, 1) := by decide +kernel
theorem jd_M_asksForBlock_12 : decode jb_M_asksForBlock 12 = .ok (.getfield 32, 3) := by decide +kernel
theorem jd_M_asksForBlock_15 : decode jb_M_asksForBlock 15 = .ok (.iload_n 1, 1) := by decide +kernel
theorem jd_M_asksForBlock_16 : decode jb_M_asksForBlock 16 = .ok (.aload_n 0, 1) := by decide +kernel
theorem jd_M_asksForBlock_17 : decode jb_M_asksForBlock 17 = .ok (.iload_n 1, 1) := by decide +kernel
theorem jd_M_asksForBlock_18 : decode jb_M_asksForBlock 18 = .ok (.aload_n 0, 1) := by decide +kernel
theorem jd_M_asksForBlock_19 : decode jb_M_asksForBlock 19 = .ok (.getfield 32, 3) := by decide +kernel
theorem jd_M_asksForBlock_22 : decode jb_M_asksForBlock 22 = .ok (.invokevirtual 139, 3) := by decide +kernel
theorem jd_M_asksForBlock_25 : decode jb_M_asksForBlock 25 = .ok (.invokevirtual 143, 3) := by decide +kernel
theorem jd_M_asksForBlock_28 : decode jb_M_asksForBlock 28 = .ok (.iconst (-1), 1) := by decide +kernel
theorem jd_M_asksForBlock_29 : decode jb_M_asksForBlock 29 = .ok (.if_icmp .ne 23, 3) := by decide +kernel
theorem jd_M_asksForBlock_32 : decode jb_M_asksForBlock 32 = .ok (.aload_n 0, 1) := by decide +kernel
theorem jd_M_asksForBlock_33 : decode jb_M_asksForBlock 33 = .ok (.aload_n 0, 1) := by decide +kernel
theorem jd_M_asksForBlock_34 : decode jb_M_asksForBlock 34 = .ok (.getfield 32, 3) := by decide +kernel
theorem jd_M_asksForBlock_37 : decode jb_M_asksForBlock 37 = .ok (.iload_n 1, 1) := by decide +kernel
theorem jd_M_asksForBlock_38 : decode jb_M_asksForBlock 38 = .ok (.aload_n 0, 1) := by decide +kernel
theorem jd_M_asksForBlock_39 : decode jb_M_asksForBlock 39 = .ok (.iload_n 1, 1) := by decide +kernel
theorem jd_M_asksForBlock_40 : decode jb_M_asksForBlock 40 = .ok (.aload_n 0, 1) := by decide +kernel
theorem jd_M_asksForBlock_41 : decode jb_M_asksForBlock 41 = .ok (.getfield 32, 3) := by decide +kernel
theorem jd_M_asksForBlock_44 : decode jb_M_asksForBlock 44 = .ok (.invokevirtual 139, 3) := by decide +kernel
theorem jd_M_asksForBlock_47 : decode jb_M_asksForBlock 47 = .ok (.invokevirtual 147, 3) := by decide +kernel
theorem jd_M_asksForBlock_50 : decode jb_M_asksForBlock 50 = .ok (.iconst 1, 1) := by decide +kernel
theorem jd_M_asksForBlock_51 : decode jb_M_asksForBlock 51 = .ok (.ireturn, 1) := by decide +kernel
theorem jd_M_asksForBlock_52 : decode jb_M_asksForBlock 52 = .ok (.iload_n 1, 1) := by decide +kernel
theorem jd_M_asksForBlock_53 : decode jb_M_asksForBlock 53 = .ok (.aload_n 0, 1) := by decide +kernel
theorem jd_M_asksForBlock_54 : decode jb_M_asksForBlock 54 = .ok (.aload_n 0, 1) := by decide +kernel
theorem jd_M_asksForBlock_55 : decode jb_M_asksForBlock 55 = .ok (.getfield 32, 3) := by decide +kernel
theorem jd_M_asksForBlock_58 : decode jb_M_asksForBlock 58 = .ok (.invokevirtual 136, 3) := by decide +kernel
theorem jd_M_asksForBlock_61 : decode jb_M_asksForBlock 61 = .ok (.iadd, 1) := by decide +kernel
theorem jd_M_asksForBlock_62 : decode jb_M_asksForBlock 62 = .ok (.istore_n 1, 1) := by decide +kernel
theorem jd_M_asksForBlock_63 : decode jb_M_asksForBlock 63 = .ok (.goto (-61), 3) := by decide +kernel
theorem jd_M_asksForBlock_66 : decode jb_M_asksForBlock 66 = .ok (.iconst 0, 1) := by decide +kernel
theorem jd_M_asksForBlock_67 : decode jb_M_asksForBlock 67 = .ok (.ireturn, 1) := by decide +kernel
theorem jd_M_end_0 : decode jb_M_end 0 = .ok (.iload_n 1, 1) := by decide +kernel
theorem jd_M_end_1 : decode jb_M_end 1 = .ok (.aload_n 0, 1) := by decide +kernel
theorem jd_M_end_2 : decode jb_M_end 2 = .ok (.iload_n 2, 1) := by decide +kernel
theorem jd_M_end_3 : decode jb_M_end 3 = .ok (.invokevirtual 136, 3) := by decide +kernel
theorem jd_M_end_6 : decode jb_M_end 6 = .ok (.iadd, 1) := by decide +kernel
theorem jd_M_end_7 : decode jb_M_end 7 = .ok (.istore_n 3, 1) := by decide +kernel
theorem jd_M_end_8 : decode jb_M_end 8 = .ok (.iload_n 3, 1) := by decide +kernel
theorem jd_M_end_9 : decode jb_M_end 9 = .ok (.aload_n 0, 1) := by decide +kernel
theorem jd_M_end_10 : decode jb_M_end 10 = .ok (.getfield 85, 3) := by decide +kernel
theorem jd_M_end_13 : decode jb_M_end 13 = .ok (.if_icmp .ge 7, 3) := by decide +kernel
theorem jd_M_end_16 : decode jb_M_end 16 = .ok (.iload_n 3, 1) := by decide +kernel
theorem jd_M_end_17 : decode jb_M_end 17 = .ok (.goto 7, 3) := by decide +kernel
theorem jd_M_end_20 : decode jb_M_end 20 = .ok (.aload_n 0, 1) := by decide +kernel
theorem jd_M_end_21 : decode jb_M_end 21 = .ok (.getfield 85, 3) := by decide +kernel
theorem jd_M_end_24 : decode jb_M_end 24 = .ok (.ireturn, 1) := by decide +kernel
theorem jd_M_blockSize_0 : decode jb_M_blockSize 0 = .ok (.aload_n 0, 1) := by decide +kernel
theorem jd_M_blockSize_1 : decode jb_M_blockSize 1 = .ok (.getfield 117, 3) := by decide +kernel
theorem jd_M_blockSize_4 : decode jb_M_blockSize 4 = .ok (.iload_n 1, 1) := by decide +kernel
theorem jd_M_blockSize_5 : decode jb_M_blockSize 5 = .ok (.ishl, 1) := by decide +kernel
theorem jd_M_blockSize_6 : decode jb_M_blockSize 6 = .ok (.ireturn, 1) := by decide +kernel
theorem jd_M_known_0 : decode jb_M_known 0 = .ok (.iconst 1, 1) := by decide +kernel
theorem jd_M_known_1 : decode jb_M_known 1 = .ok (.istore 4, 2) := by decide +kernel
theorem jd_M_known_3 : decode jb_M_known 3 = .ok (.iload 4, 2) := by decide +kernel
theorem jd_M_known_5 : decode jb_M_known 5 = .ok (.aload_n 0, 1) := by decide +kernel
theorem jd_M_known_6 : decode jb_M_known 6 = .ok (.getfield 126, 3) := by decide +kernel
theorem jd_M_known_9 : decode jb_M_known 9 = .ok (.if_icmp .gt 50, 3) := by decide +kernel
theorem jd_M_known_12 : decode jb_M_known 12 = .ok (.aload_n 0, 1) := by decide +kernel
theorem jd_M_known_13 : decode jb_M_known 13 = .ok (.getfield 39, 3) := by decide +kernel
theorem jd_M_known_16 : decode jb_M_known 16 = .ok (.iload 4, 2) := by decide +kernel
theorem jd_M_known_18 : decode jb_M_known 18 = .ok (.iaload, 1) := by decide +kernel
theorem jd_M_known_19 : decode jb_M_known 19 = .ok (.iload_n 1, 1) := by decide +kernel
theorem jd_M_known_20 : decode jb_M_known 20 = .ok (.if_icmp .ne 33, 3) := by decide +kernel
theorem jd_M_known_23 : decode jb_M_known 23 = .ok (.aload_n 0, 1) := by decide +kernel
theorem jd_M_known_24 : decode jb_M_known 24 = .ok (.getfield 42, 3) := by decide +kernel
theorem jd_M_known_27 : decode jb_M_known 27 = .ok (.iload 4, 2) := by decide +kernel
theorem jd_M_known_29 : decode jb_M_known 29 = .ok (.iaload, 1) := by decide +kernel
theorem jd_M_known_30 : decode jb_M_known 30 = .ok (.iload_n 2, 1) := by decide +kernel
theorem jd_M_known_31 : decode jb_M_known 31 = .ok (.if_icmp .ne 22, 3) := by decide +kernel
theorem jd_M_known_34 : decode jb_M_known 34 = .ok (.aload_n 0, 1) := by decide +kernel
theorem jd_M_known_35 : decode jb_M_known 35 = .ok (.getfield 45, 3) := by decide +kernel
theorem jd_M_known_38 : decode jb_M_known 38 = .ok (.iload 4, 2) := by decide +kernel
theorem jd_M_known_40 : decode jb_M_known 40 = .ok (.iaload, 1) := by decide +kernel
theorem jd_M_known_41 : decode jb_M_known 41 = .ok (.iload_n 3, 1) := by decide +kernel
theorem jd_M_known_42 : decode jb_M_known 42 = .ok (.if_icmp .ne 11, 3) := by decide +kernel
theorem jd_M_known_45 : decode jb_M_known 45 = .ok (.aload_n 0, 1) := by decide +kernel
theorem jd_M_known_46 : decode jb_M_known 46 = .ok (.getfield 48, 3) := by decide +kernel
theorem jd_M_known_49 : decode jb_M_known 49 = .ok (.iload 4, 2) := by decide +kernel
theorem jd_M_known_51 : decode jb_M_known 51 = .ok (.iaload, 1) := by decide +kernel
theorem jd_M_known_52 : decode jb_M_known 52 = .ok (.ireturn, 1) := by decide +kernel
theorem jd_M_known_53 : decode jb_M_known 53 = .ok (.iinc 4 1, 3) := by decide +kernel
theorem jd_M_known_56 : decode jb_M_known 56 = .ok (.goto (-53), 3) := by decide +kernel
theorem jd_M_known_59 : decode jb_M_known 59 = .ok (.iconst (-1), 1) := by decide +kernel
theorem jd_M_known_60 : decode jb_M_known 60 = .ok (.ireturn, 1) := by decide +kernel
theorem jd_M_ask_0 : decode jb_M_ask 0 = .ok (.aload_n 0, 1) := by decide +kernel
theorem jd_M_ask_1 : decode jb_M_ask 1 = .ok (.dup, 1) := by decide +kernel
theorem jd_M_ask_2 : decode jb_M_ask 2 = .ok (.getfield 129, 3) := by decide +kernel
theorem jd_M_ask_5 : decode jb_M_ask 5 = .ok (.iconst 1, 1) := by decide +kernel
theorem jd_M_ask_6 : decode jb_M_ask 6 = .ok (.iadd, 1) := by decide +kernel
theorem jd_M_ask_7 : decode jb_M_ask 7 = .ok (.putfield 129, 3) := by decide +kernel
theorem jd_M_ask_10 : decode jb_M_ask 10 = .ok (.aload_n 0, 1) := by decide +kernel
theorem jd_M_ask_11 : decode jb_M_ask 11 = .ok (.getfield 39, 3) := by decide +kernel
theorem jd_M_ask_14 : decode jb_M_ask 14 = .ok (.aload_n 0, 1) := by decide +kernel
theorem jd_M_ask_15 : decode jb_M_ask 15 = .ok (.getfield 129, 3) := by decide +kernel
theorem jd_M_ask_18 : decode jb_M_ask 18 = .ok (.iload_n 1, 1) := by decide +kernel
theorem jd_M_ask_19 : decode jb_M_ask 19 = .ok (.iastore, 1) := by decide +kernel
theorem jd_M_ask_20 : decode jb_M_ask 20 = .ok (.aload_n 0, 1) := by decide +kernel
theorem jd_M_ask_21 : decode jb_M_ask 21 = .ok (.getfield 42, 3) := by decide +kernel
theorem jd_M_ask_24 : decode jb_M_ask 24 = .ok (.aload_n 0, 1) := by decide +kernel
theorem jd_M_ask_25 : decode jb_M_ask 25 = .ok (.getfield 129, 3) := by decide +kernel
theorem jd_M_ask_28 : decode jb_M_ask 28 = .ok (.iload_n 2, 1) := by decide +kernel
theorem jd_M_ask_29 : decode jb_M_ask 29 = .ok (.iastore, 1) := by decide +kernel
theorem jd_M_ask_30 : decode jb_M_ask 30 = .ok (.aload_n 0, 1) := by decide +kernel
theorem jd_M_ask_31 : decode jb_M_ask 31 = .ok (.getfield 45, 3) := by decide +kernel
theorem jd_M_ask_34 : decode jb_M_ask 34 = .ok (.aload_n 0, 1) := by decide +kernel
theorem jd_M_ask_35 : decode jb_M_ask 35 = .ok (.getfield 129, 3) := by decide +kernel
theorem jd_M_ask_38 : decode jb_M_ask 38 = .ok (.iload_n 3, 1) := by decide +kernel
theorem jd_M_ask_39 : decode jb_M_ask 39 = .ok (.iastore, 1) := by decide +kernel
theorem jd_M_ask_40 : decode jb_M_ask 40 = .ok (.aload_n 0, 1) := by decide +kernel
theorem jd_M_ask_41 : decode jb_M_ask 41 = .ok (.iconst 0, 1) := by decide +kernel
theorem jd_M_ask_42 : decode jb_M_ask 42 = .ok (.aload_n 0, 1) := by decide +kernel
theorem jd_M_ask_43 : decode jb_M_ask 43 = .ok (.getfield 129, 3) := by decide +kernel
theorem jd_M_ask_46 : decode jb_M_ask 46 = .ok (.iconst 0, 1) := by decide +kernel
theorem jd_M_ask_47 : decode jb_M_ask 47 = .ok (.invokevirtual 132, 3) := by decide +kernel
theorem jd_M_ask_50 : decode jb_M_ask 50 = .ok (.return_, 1) := by decide +kernel
theorem jd_M_send_0 : decode jb_M_send 0 = .ok (.aload_n 0, 1) := by decide +kernel
theorem jd_M_send_1 : decode jb_M_send 1 = .ok (.getfield 123, 3) := by decide +kernel
theorem jd_M_send_4 : decode jb_M_send 4 = .ok (.bipush 16, 2) := by decide +kernel
theorem jd_M_send_6 : decode jb_M_send 6 = .ok (.if_icmp .ge 43, 3) := by decide +kernel
theorem jd_M_send_9 : decode jb_M_send 9 = .ok (.aload_n 0, 1) := by decide +kernel
theorem jd_M_send_10 : decode jb_M_send 10 = .ok (.getfield 51, 3) := by decide +kernel
theorem jd_M_send_13 : decode jb_M_send 13 = .ok (.aload_n 0, 1) := by decide +kernel
theorem jd_M_send_14 : decode jb_M_send 14 = .ok (.getfield 123, 3) := by decide +kernel
theorem jd_M_send_17 : decode jb_M_send 17 = .ok (.iload_n 1, 1) := by decide +kernel
theorem jd_M_send_18 : decode jb_M_send 18 = .ok (.bastore, 1) := by decide +kernel
theorem jd_M_send_19 : decode jb_M_send 19 = .ok (.aload_n 0, 1) := by decide +kernel
theorem jd_M_send_20 : decode jb_M_send 20 = .ok (.getfield 54, 3) := by decide +kernel
theorem jd_M_send_23 : decode jb_M_send 23 = .ok (.aload_n 0, 1) := by decide +kernel
theorem jd_M_send_24 : decode jb_M_send 24 = .ok (.getfield 123, 3) := by decide +kernel
theorem jd_M_send_27 : decode jb_M_send 27 = .ok (.iload_n 2, 1) := by decide +kernel
theorem jd_M_send_28 : decode jb_M_send 28 = .ok (.iastore, 1) := by decide +kernel
theorem jd_M_send_29 : decode jb_M_send 29 = .ok (.aload_n 0, 1) := by decide +kernel
theorem jd_M_send_30 : decode jb_M_send 30 = .ok (.getfield 57, 3) := by decide +kernel
theorem jd_M_send_33 : decode jb_M_send 33 = .ok (.aload_n 0, 1) := by decide +kernel
theorem jd_M_send_34 : decode jb_M_send 34 = .ok (.getfield 123, 3) := by decide +kernel
theorem jd_M_send_37 : decode jb_M_send 37 = .ok (.iload_n 3, 1) := by decide +kernel
theorem jd_M_send_38 : decode jb_M_send 38 = .ok (.iastore, 1) := by decide +kernel
theorem jd_M_send_39 : decode jb_M_send 39 = .ok (.aload_n 0, 1) := by decide +kernel
theorem jd_M_send_40 : decode jb_M_send 40 = .ok (.dup, 1) := by decide +kernel
theorem jd_M_send_41 : decode jb_M_send 41 = .ok (.getfield 123, 3) := by decide +kernel
theorem jd_M_send_44 : decode jb_M_send 44 = .ok (.iconst 1, 1) := by decide +kernel
theorem jd_M_send_45 : decode jb_M_send 45 = .ok (.iadd, 1) := by decide +kernel
theorem jd_M_send_46 : decode jb_M_send 46 = .ok (.putfield 123, 3) := by decide +kernel
theorem jd_M_send_49 : decode jb_M_send 49 = .ok (.return_, 1) := by decide +kernel
theorem jd_M_search_0 : decode jb_M_search 0 = .ok (.iconst (-1), 1) := by decide +kernel
theorem jd_M_search_1 : decode jb_M_search 1 = .ok (.istore_n 1, 1) := by decide +kernel
theorem jd_M_search_2 : decode jb_M_search 2 = .ok (.iconst 0, 1) := by decide +kernel
theorem jd_M_search_3 : decode jb_M_search 3 = .ok (.istore_n 2, 1) := by decide +kernel
theorem jd_M_search_4 : decode jb_M_search 4 = .ok (.iconst 0, 1) := by decide +kernel
theorem jd_M_search_5 : decode jb_M_search 5 = .ok (.istore_n 3, 1) := by decide +kernel
theorem jd_M_search_6 : decode jb_M_search 6 = .ok (.iload_n 3, 1) := by decide +kernel
theorem jd_M_search_7 : decode jb_M_search 7 = .ok (.aload_n 0, 1) := by decide +kernel
theorem jd_M_search_8 : decode jb_M_search 8 = .ok (.getfield 32, 3) := by decide +kernel
theorem jd_M_search_11 : decode jb_M_search 11 = .ok (.if_icmp .gt 121, 3) := by decide +kernel
theorem jd_M_search_14 : decode jb_M_search 14 = .ok (.iconst 0, 1) := by decide +kernel
theorem jd_M_search_15 : decode jb_M_search 15 = .ok (.istore 4, 2) := by decide +kernel
theorem jd_M_search_17 : decode jb_M_search 17 = .ok (.iload 4, 2) := by decide +kernel
theorem jd_M_search_19 : decode jb_M_search 19 = .ok (.aload_n 0, 1) := by decide +kernel
theorem jd_M_search_20 : decode jb_M_search 20 = .ok (.getfield 85, 3) := by decide +kernel
theorem jd_M_search_23 : decode jb_M_search 23 = .ok (.if_icmp .ge 103, 3) := by decide +kernel
theorem jd_M_search_26 : decode jb_M_search 26 = .ok (.aload_n 0, 1) := by decide +kernel
theorem jd_M_search_27 : decode jb_M_search 27 = .ok (.iload_n 3, 1) := by decide +kernel
theorem jd_M_search_28 : decode jb_M_search 28 = .ok (.iload 4, 2) := by decide +kernel
theorem jd_M_search_30 : decode jb_M_search 30 = .ok (.aload_n 0, 1) := by decide +kernel
theorem jd_M_search_31 : decode jb_M_search 31 = .ok (.iload 4, 2) := by decide +kernel
theorem jd_M_search_33 : decode jb_M_search 33 = .ok (.iload_n 3, 1) := by decide +kernel
theorem jd_M_search_34 : decode jb_M_search 34 = .ok (.invokevirtual 139, 3) := by decide +kernel
theorem jd_M_search_37 : decode jb_M_search 37 = .ok (.invokevirtual 143, 3) := by decide +kernel
theorem jd_M_search_40 : decode jb_M_search 40 = .ok (.aload_n 0, 1) := by decide +kernel
theorem jd_M_search_41 : decode jb_M_search 41 = .ok (.iconst 1, 1) := by decide +kernel
theorem jd_M_search_42 : decode jb_M_search 42 = .ok (.iload_n 3, 1) := by decide +kernel
theorem jd_M_search_43 : decode jb_M_search 43 = .ok (.iload 4, 2) := by decide +kernel
theorem jd_M_search_45 : decode jb_M_search 45 = .ok (.aload_n 0, 1) := by decide +kernel
theorem jd_M_search_46 : decode jb_M_search 46 = .ok (.iload 4, 2) := by decide +kernel
theorem jd_M_search_48 : decode jb_M_search 48 = .ok (.iload_n 3, 1) := by decide +kernel
theorem jd_M_search_49 : decode jb_M_search 49 = .ok (.invokevirtual 139, 3) := by decide +kernel
theorem jd_M_search_52 : decode jb_M_search 52 = .ok (.invokevirtual 151, 3) := by decide +kernel
theorem jd_M_search_55 : decode jb_M_search 55 = .ok (.if_icmp .eq 7, 3) := by decide +kernel
theorem jd_M_search_58 : decode jb_M_search 58 = .ok (.iconst 1, 1) := by decide +kernel
theorem jd_M_search_59 : decode jb_M_search 59 = .ok (.goto 4, 3) := by decide +kernel
theorem jd_M_search_62 : decode jb_M_search 62 = .ok (.iconst 0, 1) := by decide +kernel
theorem jd_M_search_63 : decode jb_M_search 63 = .ok (.istore 5, 2) := by decide +kernel
theorem jd_M_search_65 : decode jb_M_search 65 = .ok (.iload_n 1, 1) := by decide +kernel
theorem jd_M_search_66 : decode jb_M_search 66 = .ok (.iconst (-1), 1) := by decide +kernel
theorem jd_M_search_67 : decode jb_M_search 67 = .ok (.if_icmp .eq 24, 3) := by decide +kernel
theorem jd_M_search_70 : decode jb_M_search 70 = .ok (.aload_n 0, 1) := by decide +kernel
theorem jd_M_search_71 : decode jb_M_search 71 = .ok (.iload 4, 2) := by decide +kernel
theorem jd_M_search_73 : decode jb_M_search 73 = .ok (.iload_n 3, 1) := by decide +kernel
theorem jd_M_search_74 : decode jb_M_search 74 = .ok (.invokevirtual 139, 3) := by decide +kernel
theorem jd_M_search_77 : decode jb_M_search 77 = .ok (.iload 4, 2) := by decide +kernel
theorem jd_M_search_79 : decode jb_M_search 79 = .ok (.isub, 1) := by decide +kernel
theorem jd_M_search_80 : decode jb_M_search 80 = .ok (.aload_n 0, 1) := by decide +kernel
theorem jd_M_search_81 : decode jb_M_search 81 = .ok (.iload_n 1, 1) := by decide +kernel
theorem jd_M_search_82 : decode jb_M_search 82 = .ok (.iload_n 2, 1) := by decide +kernel
theorem jd_M_search_83 : decode jb_M_search 83 = .ok (.invokevirtual 139, 3) := by decide +kernel
theorem jd_M_search_86 : decode jb_M_search 86 = .ok (.iload_n 1, 1) := by decide +kernel
theorem jd_M_search_87 : decode jb_M_search 87 = .ok (.isub, 1) := by decide +kernel
theorem jd_M_search_88 : decode jb_M_search 88 = .ok (.if_icmp .ge 7, 3) := by decide +kernel
theorem jd_M_search_91 : decode jb_M_search 91 = .ok (.iconst 1, 1) := by decide +kernel
theorem jd_M_search_92 : decode jb_M_search 92 = .ok (.goto 4, 3) := by decide +kernel
theorem jd_M_search_95 : decode jb_M_search 95 = .ok (.iconst 0, 1) := by decide +kernel
theorem jd_M_search_96 : decode jb_M_search 96 = .ok (.istore 6, 2) := by decide +kernel
theorem jd_M_search_98 : decode jb_M_search 98 = .ok (.iload 5, 2) := by decide +kernel
theorem jd_M_search_100 : decode jb_M_search 100 = .ok (.ifCond .eq 13, 3) := by decide +kernel
theorem jd_M_search_103 : decode jb_M_search 103 = .ok (.iload 6, 2) := by decide +kernel
theorem jd_M_search_105 : decode jb_M_search 105 = .ok (.ifCond .eq 8, 3) := by decide +kernel
theorem jd_M_search_108 : decode jb_M_search 108 = .ok (.iload 4, 2) := by decide +kernel
theorem jd_M_search_110 : decode jb_M_search 110 = .ok (.istore_n 1, 1) := by decide +kernel
theorem jd_M_search_111 : decode jb_M_search 111 = .ok (.iload_n 3, 1) := by decide +kernel
theorem jd_M_search_112 : decode jb_M_search 112 = .ok (.istore_n 2, 1) := by decide +kernel
theorem jd_M_search_113 : decode jb_M_search 113 = .ok (.iload 4, 2) := by decide +kernel
theorem jd_M_search_115 : decode jb_M_search 115 = .ok (.aload_n 0, 1) := by decide +kernel
theorem jd_M_search_116 : decode jb_M_search 116 = .ok (.iload_n 3, 1) := by decide +kernel
theorem jd_M_search_117 : decode jb_M_search 117 = .ok (.invokevirtual 136, 3) := by decide +kernel
theorem jd_M_search_120 : decode jb_M_search 120 = .ok (.iadd, 1) := by decide +kernel
theorem jd_M_search_121 : decode jb_M_search 121 = .ok (.istore 4, 2) := by decide +kernel
theorem jd_M_search_123 : decode jb_M_search 123 = .ok (.goto (-106), 3) := by decide +kernel
theorem jd_M_search_126 : decode jb_M_search 126 = .ok (.iinc 3 1, 3) := by decide +kernel
theorem jd_M_search_129 : decode jb_M_search 129 = .ok (.goto (-123), 3) := by decide +kernel
theorem jd_M_search_132 : decode jb_M_search 132 = .ok (.iload_n 1, 1) := by decide +kernel
theorem jd_M_search_133 : decode jb_M_search 133 = .ok (.iconst (-1), 1) := by decide +kernel
theorem jd_M_search_134 : decode jb_M_search 134 = .ok (.if_icmp .ne 5, 3) := by decide +kernel
theorem jd_M_search_137 : decode jb_M_search 137 = .ok (.iconst 0, 1) := by decide +kernel
theorem jd_M_search_138 : decode jb_M_search 138 = .ok (.ireturn, 1) := by decide +kernel
theorem jd_M_search_139 : decode jb_M_search 139 = .ok (.iload_n 1, 1) := by decide +kernel
theorem jd_M_search_140 : decode jb_M_search 140 = .ok (.istore_n 3, 1) := by decide +kernel
theorem jd_M_search_141 : decode jb_M_search 141 = .ok (.aload_n 0, 1) := by decide +kernel
theorem jd_M_search_142 : decode jb_M_search 142 = .ok (.iload_n 1, 1) := by decide +kernel
theorem jd_M_search_143 : decode jb_M_search 143 = .ok (.iload_n 2, 1) := by decide +kernel
theorem jd_M_search_144 : decode jb_M_search 144 = .ok (.invokevirtual 139, 3) := by decide +kernel
theorem jd_M_search_147 : decode jb_M_search 147 = .ok (.istore 4, 2) := by decide +kernel
theorem jd_M_search_149 : decode jb_M_search 149 = .ok (.iload 4, 2) := by decide +kernel
theorem jd_M_search_151 : decode jb_M_search 151 = .ok (.iload_n 3, 1) := by decide +kernel
theorem jd_M_search_152 : decode jb_M_search 152 = .ok (.isub, 1) := by decide +kernel
theorem jd_M_search_153 : decode jb_M_search 153 = .ok (.iconst 1, 1) := by decide +kernel
theorem jd_M_search_154 : decode jb_M_search 154 = .ok (.if_icmp .le 91, 3) := by decide +kernel
theorem jd_M_search_157 : decode jb_M_search 157 = .ok (.iload_n 3, 1) := by decide +kernel
theorem jd_M_search_158 : decode jb_M_search 158 = .ok (.iload 4, 2) := by decide +kernel
theorem jd_M_search_160 : decode jb_M_search 160 = .ok (.iload_n 3, 1) := by decide +kernel
theorem jd_M_search_161 : decode jb_M_search 161 = .ok (.isub, 1) := by decide +kernel
theorem jd_M_search_162 : decode jb_M_search 162 = .ok (.iconst 1, 1) := by decide +kernel
theorem jd_M_search_163 : decode jb_M_search 163 = .ok (.iadd, 1) := by decide +kernel
theorem jd_M_search_164 : decode jb_M_search 164 = .ok (.iconst 2, 1) := by decide +kernel
theorem jd_M_search_165 : decode jb_M_search 165 = .ok (.idiv, 1) := by decide +kernel
theorem jd_M_search_166 : decode jb_M_search 166 = .ok (.iadd, 1) := by decide +kernel
theorem jd_M_search_167 : decode jb_M_search 167 = .ok (.istore 5, 2) := by decide +kernel
theorem jd_M_search_169 : decode jb_M_search 169 = .ok (.aload_n 0, 1) := by decide +kernel
theorem jd_M_search_170 : decode jb_M_search 170 = .ok (.iload_n 2, 1) := by decide +kernel
theorem jd_M_search_171 : decode jb_M_search 171 = .ok (.iload_n 3, 1) := by decide +kernel
theorem jd_M_search_172 : decode jb_M_search 172 = .ok (.iload 5, 2) := by decide +kernel
theorem jd_M_search_174 : decode jb_M_search 174 = .ok (.invokevirtual 143, 3) := by decide +kernel
theorem jd_M_search_177 : decode jb_M_search 177 = .ok (.istore 6, 2) := by decide +kernel
theorem jd_M_search_179 : decode jb_M_search 179 = .ok (.iload 6, 2) := by decide +kernel
theorem jd_M_search_181 : decode jb_M_search 181 = .ok (.iconst (-1), 1) := by decide +kernel
theorem jd_M_search_182 : decode jb_M_search 182 = .ok (.if_icmp .ne 13, 3) := by decide +kernel
theorem jd_M_search_185 : decode jb_M_search 185 = .ok (.aload_n 0, 1) := by decide +kernel
theorem jd_M_search_186 : decode jb_M_search 186 = .ok (.iload_n 2, 1) := by decide +kernel
theorem jd_M_search_187 : decode jb_M_search 187 = .ok (.iload_n 3, 1) := by decide +kernel
theorem jd_M_search_188 : decode jb_M_search 188 = .ok (.iload 5, 2) := by decide +kernel
theorem jd_M_search_190 : decode jb_M_search 190 = .ok (.invokevirtual 147, 3) := by decide +kernel
theorem jd_M_search_193 : decode jb_M_search 193 = .ok (.iconst 2, 1) := by decide +kernel
theorem jd_M_search_194 : decode jb_M_search 194 = .ok (.ireturn, 1) := by decide +kernel
theorem jd_M_search_195 : decode jb_M_search 195 = .ok (.iload 6, 2) := by decide +kernel
theorem jd_M_search_197 : decode jb_M_search 197 = .ok (.aload_n 0, 1) := by decide +kernel
theorem jd_M_search_198 : decode jb_M_search 198 = .ok (.iconst 1, 1) := by decide +kernel
theorem jd_M_search_199 : decode jb_M_search 199 = .ok (.iload_n 2, 1) := by decide +kernel
theorem jd_M_search_200 : decode jb_M_search 200 = .ok (.iload_n 3, 1) := by decide +kernel
theorem jd_M_search_201 : decode jb_M_search 201 = .ok (.iload 5, 2) := by decide +kernel
theorem jd_M_search_203 : decode jb_M_search 203 = .ok (.invokevirtual 151, 3) := by decide +kernel
theorem jd_M_search_206 : decode jb_M_search 206 = .ok (.if_icmp .eq 7, 3) := by decide +kernel
theorem jd_M_search_209 : decode jb_M_search 209 = .ok (.iconst 1, 1) := by decide +kernel
theorem jd_M_search_210 : decode jb_M_search 210 = .ok (.goto 4, 3) := by decide +kernel
theorem jd_M_search_213 : decode jb_M_search 213 = .ok (.iconst 0, 1) := by decide +kernel
theorem jd_M_search_214 : decode jb_M_search 214 = .ok (.istore 7, 2) := by decide +kernel
theorem jd_M_search_216 : decode jb_M_search 216 = .ok (.iload 7, 2) := by decide +kernel
theorem jd_M_search_218 : decode jb_M_search 218 = .ok (.ifCond .eq 8, 3) := by decide +kernel
theorem jd_M_search_221 : decode jb_M_search 221 = .ok (.iload 5, 2) := by decide +kernel
theorem jd_M_search_223 : decode jb_M_search 223 = .ok (.goto 5, 3) := by decide +kernel
theorem jd_M_search_226 : decode jb_M_search 226 = .ok (.iload 4, 2) := by decide +kernel
theorem jd_M_search_228 : decode jb_M_search 228 = .ok (.istore 4, 2) := by decide +kernel
theorem jd_M_search_230 : decode jb_M_search 230 = .ok (.iload 7, 2) := by decide +kernel
theorem jd_M_search_232 : decode jb_M_search 232 = .ok (.ifCond .eq 7, 3) := by decide +kernel
theorem jd_M_search_235 : decode jb_M_search 235 = .ok (.iload_n 3, 1) := by decide +kernel
theorem jd_M_search_236 : decode jb_M_search 236 = .ok (.goto 5, 3) := by decide +kernel
theorem jd_M_search_239 : decode jb_M_search 239 = .ok (.iload 5, 2) := by decide +kernel
theorem jd_M_search_241 : decode jb_M_search 241 = .ok (.istore_n 3, 1) := by decide +kernel
theorem jd_M_search_242 : decode jb_M_search 242 = .ok (.goto (-93), 3) := by decide +kernel
theorem jd_M_search_245 : decode jb_M_search 245 = .ok (.sipush 128, 3) := by decide +kernel
theorem jd_M_search_248 : decode jb_M_search 248 = .ok (.aload_n 0, 1) := by decide +kernel
theorem jd_M_search_249 : decode jb_M_search 249 = .ok (.getfield 36, 3) := by decide +kernel
theorem jd_M_search_252 : decode jb_M_search 252 = .ok (.sipush 128, 3) := by decide +kernel
theorem jd_M_search_255 : decode jb_M_search 255 = .ok (.iload_n 2, 1) := by decide +kernel
theorem jd_M_search_256 : decode jb_M_search 256 = .ok (.imul, 1) := by decide +kernel
theorem jd_M_search_257 : decode jb_M_search 257 = .ok (.iload_n 3, 1) := by decide +kernel
theorem jd_M_search_258 : decode jb_M_search 258 = .ok (.iadd, 1) := by decide +kernel
theorem jd_M_search_259 : decode jb_M_search 259 = .ok (.iaload, 1) := by decide +kernel
theorem jd_M_search_260 : decode jb_M_search 260 = .ok (.iadd, 1) := by decide +kernel
theorem jd_M_search_261 : decode jb_M_search 261 = .ok (.istore 5, 2) := by decide +kernel
theorem jd_M_search_263 : decode jb_M_search 263 = .ok (.aload_n 0, 1) := by decide +kernel
theorem jd_M_search_264 : decode jb_M_search 264 = .ok (.getfield 23, 3) := by decide +kernel
theorem jd_M_search_267 : decode jb_M_search 267 = .ok (.iload 5, 2) := by decide +kernel
theorem jd_M_search_269 : decode jb_M_search 269 = .ok (.iconst 1, 1) := by decide +kernel
theorem jd_M_search_270 : decode jb_M_search 270 = .ok (.aload_n 0, 1) := by decide +kernel
theorem jd_M_search_271 : decode jb_M_search 271 = .ok (.getfield 23, 3) := by decide +kernel
theorem jd_M_search_274 : decode jb_M_search 274 = .ok (.iload 5, 2) := by decide +kernel
theorem jd_M_search_276 : decode jb_M_search 276 = .ok (.iaload, 1) := by decide +kernel
theorem jd_M_search_277 : decode jb_M_search 277 = .ok (.isub, 1) := by decide +kernel
theorem jd_M_search_278 : decode jb_M_search 278 = .ok (.iastore, 1) := by decide +kernel
theorem jd_M_search_279 : decode jb_M_search 279 = .ok (.iconst 1, 1) := by decide +kernel
theorem jd_M_search_280 : decode jb_M_search 280 = .ok (.ireturn, 1) := by decide +kernel
theorem jd_M_parityAt_0 : decode jb_M_parityAt 0 = .ok (.iconst 0, 1) := by decide +kernel
theorem jd_M_parityAt_1 : decode jb_M_parityAt 1 = .ok (.istore 5, 2) := by decide +kernel
theorem jd_M_parityAt_3 : decode jb_M_parityAt 3 = .ok (.iload_n 3, 1) := by decide +kernel
theorem jd_M_parityAt_4 : decode jb_M_parityAt 4 = .ok (.istore 6, 2) := by decide +kernel
theorem jd_M_parityAt_6 : decode jb_M_parityAt 6 = .ok (.iload 6, 2) := by decide +kernel
theorem jd_M_parityAt_8 : decode jb_M_parityAt 8 = .ok (.iload 4, 2) := by decide +kernel
theorem jd_M_parityAt_10 : decode jb_M_parityAt 10 = .ok (.if_icmp .ge 38, 3) := by decide +kernel
theorem jd_M_parityAt_13 : decode jb_M_parityAt 13 = .ok (.iload 5, 2) := by decide +kernel
theorem jd_M_parityAt_15 : decode jb_M_parityAt 15 = .ok (.aload_n 0, 1) := by decide +kernel
theorem jd_M_parityAt_16 : decode jb_M_parityAt 16 = .ok (.getfield 23, 3) := by decide +kernel
theorem jd_M_parityAt_19 : decode jb_M_parityAt 19 = .ok (.sipush 128, 3) := by decide +kernel
theorem jd_M_parityAt_22 : decode jb_M_parityAt 22 = .ok (.iload_n 1, 1) := by decide +kernel
theorem jd_M_parityAt_23 : decode jb_M_parityAt 23 = .ok (.imul, 1) := by decide +kernel
theorem jd_M_parityAt_24 : decode jb_M_parityAt 24 = .ok (.aload_n 0, 1) := by decide +kernel
theorem jd_M_parityAt_25 : decode jb_M_parityAt 25 = .ok (.getfield 36, 3) := by decide +kernel
theorem jd_M_parityAt_28 : decode jb_M_parityAt 28 = .ok (.sipush 128, 3) := by decide +kernel
theorem jd_M_parityAt_31 : decode jb_M_parityAt 31 = .ok (.iload_n 2, 1) := by decide +kernel
theorem jd_M_parityAt_32 : decode jb_M_parityAt 32 = .ok (.imul, 1) := by decide +kernel
theorem jd_M_parityAt_33 : decode jb_M_parityAt 33 = .ok (.iload 6, 2) := by decide +kernel
theorem jd_M_parityAt_35 : decode jb_M_parityAt 35 = .ok (.iadd, 1) := by decide +kernel
theorem jd_M_parityAt_36 : decode jb_M_parityAt 36 = .ok (.iaload, 1) := by decide +kernel
theorem jd_M_parityAt_37 : decode jb_M_parityAt 37 = .ok (.iadd, 1) := by decide +kernel
theorem jd_M_parityAt_38 : decode jb_M_parityAt 38 = .ok (.iaload, 1) := by decide +kernel
theorem jd_M_parityAt_39 : decode jb_M_parityAt 39 = .ok (.ixor, 1) := by decide +kernel
theorem jd_M_parityAt_40 : decode jb_M_parityAt 40 = .ok (.istore 5, 2) := by decide +kernel
theorem jd_M_parityAt_42 : decode jb_M_parityAt 42 = .ok (.iinc 6 1, 3) := by decide +kernel
theorem jd_M_parityAt_45 : decode jb_M_parityAt 45 = .ok (.goto (-39), 3) := by decide +kernel
theorem jd_M_parityAt_48 : decode jb_M_parityAt 48 = .ok (.iload 5, 2) := by decide +kernel
theorem jd_M_parityAt_50 : decode jb_M_parityAt 50 = .ok (.ireturn, 1) := by decide +kernel
theorem jd_M_letter_0 : decode jb_M_letter 0 = .ok (.aload_n 0, 1) := by decide +kernel
theorem jd_M_letter_1 : decode jb_M_letter 1 = .ok (.iload_n 2, 1) := by decide +kernel
theorem jd_M_letter_2 : decode jb_M_letter 2 = .ok (.iconst 0, 1) := by decide +kernel
theorem jd_M_letter_3 : decode jb_M_letter 3 = .ok (.iconst 2, 1) := by decide +kernel
theorem jd_M_letter_4 : decode jb_M_letter 4 = .ok (.invokestatic 73, 3) := by decide +kernel
theorem jd_M_letter_7 : decode jb_M_letter 7 = .ok (.ifCond .ne 7, 3) := by decide +kernel
theorem jd_M_letter_10 : decode jb_M_letter 10 = .ok (.iconst 1, 1) := by decide +kernel
theorem jd_M_letter_11 : decode jb_M_letter 11 = .ok (.goto 40, 3) := by decide +kernel
theorem jd_M_letter_14 : decode jb_M_letter 14 = .ok (.iload_n 1, 1) := by decide +kernel
theorem jd_M_letter_15 : decode jb_M_letter 15 = .ok (.iconst 0, 1) := by decide +kernel
theorem jd_M_letter_16 : decode jb_M_letter 16 = .ok (.aload_n 0, 1) := by decide +kernel
theorem jd_M_letter_17 : decode jb_M_letter 17 = .ok (.getfield 123, 3) := by decide +kernel
theorem jd_M_letter_20 : decode jb_M_letter 20 = .ok (.iconst 1, 1) := by decide +kernel
theorem jd_M_letter_21 : decode jb_M_letter 21 = .ok (.isub, 1) := by decide +kernel
theorem jd_M_letter_22 : decode jb_M_letter 22 = .ok (.invokestatic 73, 3) := by decide +kernel
theorem jd_M_letter_25 : decode jb_M_letter 25 = .ok (.ifCond .ne 7, 3) := by decide +kernel
theorem jd_M_letter_28 : decode jb_M_letter 28 = .ok (.iconst 2, 1) := by decide +kernel
theorem jd_M_letter_29 : decode jb_M_letter 29 = .ok (.goto 22, 3) := by decide +kernel
theorem jd_M_letter_32 : decode jb_M_letter 32 = .ok (.iload_n 2, 1) := by decide +kernel
theorem jd_M_letter_33 : decode jb_M_letter 33 = .ok (.iconst 2, 1) := by decide +kernel
theorem jd_M_letter_34 : decode jb_M_letter 34 = .ok (.if_icmp .ne 16, 3) := by decide +kernel
theorem jd_M_letter_37 : decode jb_M_letter 37 = .ok (.aload_n 0, 1) := by decide +kernel
theorem jd_M_letter_38 : decode jb_M_letter 38 = .ok (.getfield 123, 3) := by decide +kernel
theorem jd_M_letter_41 : decode jb_M_letter 41 = .ok (.bipush 16, 2) := by decide +kernel
theorem jd_M_letter_43 : decode jb_M_letter 43 = .ok (.if_icmp .ne 7, 3) := by decide +kernel
theorem jd_M_letter_46 : decode jb_M_letter 46 = .ok (.iconst 3, 1) := by decide +kernel
theorem jd_M_letter_47 : decode jb_M_letter 47 = .ok (.goto 4, 3) := by decide +kernel
theorem jd_M_letter_50 : decode jb_M_letter 50 = .ok (.iconst 0, 1) := by decide +kernel
theorem jd_M_letter_51 : decode jb_M_letter 51 = .ok (.putfield 66, 3) := by decide +kernel
theorem jd_M_letter_54 : decode jb_M_letter 54 = .ok (.aload_n 0, 1) := by decide +kernel
theorem jd_M_letter_55 : decode jb_M_letter 55 = .ok (.getfield 66, 3) := by decide +kernel
theorem jd_M_letter_58 : decode jb_M_letter 58 = .ok (.ifCond .le 5, 3) := by decide +kernel
theorem jd_M_letter_61 : decode jb_M_letter 61 = .ok (.iconst 0, 1) := by decide +kernel
theorem jd_M_letter_62 : decode jb_M_letter 62 = .ok (.ireturn, 1) := by decide +kernel
theorem jd_M_letter_63 : decode jb_M_letter 63 = .ok (.iload_n 2, 1) := by decide +kernel
theorem jd_M_letter_64 : decode jb_M_letter 64 = .ok (.iconst 2, 1) := by decide +kernel
theorem jd_M_letter_65 : decode jb_M_letter 65 = .ok (.if_icmp .ne 30, 3) := by decide +kernel
theorem jd_M_letter_68 : decode jb_M_letter 68 = .ok (.aload_n 0, 1) := by decide +kernel
theorem jd_M_letter_69 : decode jb_M_letter 69 = .ok (.aload_n 0, 1) := by decide +kernel
theorem jd_M_letter_70 : decode jb_M_letter 70 = .ok (.getfield 51, 3) := by decide +kernel
theorem jd_M_letter_73 : decode jb_M_letter 73 = .ok (.iload_n 1, 1) := by decide +kernel
theorem jd_M_letter_74 : decode jb_M_letter 74 = .ok (.baload, 1) := by decide +kernel
theorem jd_M_letter_75 : decode jb_M_letter 75 = .ok (.aload_n 0, 1) := by decide +kernel
theorem jd_M_letter_76 : decode jb_M_letter 76 = .ok (.getfield 54, 3) := by decide +kernel
theorem jd_M_letter_79 : decode jb_M_letter 79 = .ok (.iload_n 1, 1) := by decide +kernel
theorem jd_M_letter_80 : decode jb_M_letter 80 = .ok (.iaload, 1) := by decide +kernel
theorem jd_M_letter_81 : decode jb_M_letter 81 = .ok (.aload_n 0, 1) := by decide +kernel
theorem jd_M_letter_82 : decode jb_M_letter 82 = .ok (.getfield 57, 3) := by decide +kernel
theorem jd_M_letter_85 : decode jb_M_letter 85 = .ok (.iload_n 1, 1) := by decide +kernel
theorem jd_M_letter_86 : decode jb_M_letter 86 = .ok (.iaload, 1) := by decide +kernel
theorem jd_M_letter_87 : decode jb_M_letter 87 = .ok (.invokevirtual 132, 3) := by decide +kernel
theorem jd_M_letter_90 : decode jb_M_letter 90 = .ok (.aload_n 0, 1) := by decide +kernel
theorem jd_M_letter_91 : decode jb_M_letter 91 = .ok (.getfield 123, 3) := by decide +kernel
theorem jd_M_letter_94 : decode jb_M_letter 94 = .ok (.ireturn, 1) := by decide +kernel
theorem jd_M_letter_95 : decode jb_M_letter 95 = .ok (.aload_n 0, 1) := by decide +kernel
theorem jd_M_letter_96 : decode jb_M_letter 96 = .ok (.getfield 51, 3) := by decide +kernel
theorem jd_M_letter_99 : decode jb_M_letter 99 = .ok (.iload_n 1, 1) := by decide +kernel
theorem jd_M_letter_100 : decode jb_M_letter 100 = .ok (.baload, 1) := by decide +kernel
theorem jd_M_letter_101 : decode jb_M_letter 101 = .ok (.istore_n 3, 1) := by decide +kernel
theorem jd_M_letter_102 : decode jb_M_letter 102 = .ok (.aload_n 0, 1) := by decide +kernel
theorem jd_M_letter_103 : decode jb_M_letter 103 = .ok (.getfield 54, 3) := by decide +kernel
theorem jd_M_letter_106 : decode jb_M_letter 106 = .ok (.iload_n 1, 1) := by decide +kernel
theorem jd_M_letter_107 : decode jb_M_letter 107 = .ok (.iaload, 1) := by decide +kernel
theorem jd_M_letter_108 : decode jb_M_letter 108 = .ok (.istore 4, 2) := by decide +kernel
theorem jd_M_letter_110 : decode jb_M_letter 110 = .ok (.aload_n 0, 1) := by decide +kernel
theorem jd_M_letter_111 : decode jb_M_letter 111 = .ok (.getfield 57, 3) := by decide +kernel
theorem jd_M_letter_114 : decode jb_M_letter 114 = .ok (.iload_n 1, 1) := by decide +kernel
theorem jd_M_letter_115 : decode jb_M_letter 115 = .ok (.iaload, 1) := by decide +kernel
theorem jd_M_letter_116 : decode jb_M_letter 116 = .ok (.istore 5, 2) := by decide +kernel
theorem jd_M_letter_118 : decode jb_M_letter 118 = .ok (.aload_n 0, 1) := by decide +kernel
theorem jd_M_letter_119 : decode jb_M_letter 119 = .ok (.dup, 1) := by decide +kernel
theorem jd_M_letter_120 : decode jb_M_letter 120 = .ok (.getfield 123, 3) := by decide +kernel
theorem jd_M_letter_123 : decode jb_M_letter 123 = .ok (.iconst 1, 1) := by decide +kernel
theorem jd_M_letter_124 : decode jb_M_letter 124 = .ok (.isub, 1) := by decide +kernel
theorem jd_M_letter_125 : decode jb_M_letter 125 = .ok (.putfield 123, 3) := by decide +kernel
theorem jd_M_letter_128 : decode jb_M_letter 128 = .ok (.iload_n 1, 1) := by decide +kernel
theorem jd_M_letter_129 : decode jb_M_letter 129 = .ok (.istore 6, 2) := by decide +kernel
theorem jd_M_letter_131 : decode jb_M_letter 131 = .ok (.iload 6, 2) := by decide +kernel
theorem jd_M_letter_133 : decode jb_M_letter 133 = .ok (.aload_n 0, 1) := by decide +kernel
theorem jd_M_letter_134 : decode jb_M_letter 134 = .ok (.getfield 123, 3) := by decide +kernel
theorem jd_M_letter_137 : decode jb_M_letter 137 = .ok (.if_icmp .ge 57, 3) := by decide +kernel
theorem jd_M_letter_140 : decode jb_M_letter 140 = .ok (.aload_n 0, 1) := by decide +kernel
theorem jd_M_letter_141 : decode jb_M_letter 141 = .ok (.getfield 51, 3) := by decide +kernel
theorem jd_M_letter_144 : decode jb_M_letter 144 = .ok (.iload 6, 2) := by decide +kernel
theorem jd_M_letter_146 : decode jb_M_letter 146 = .ok (.aload_n 0, 1) := by decide +kernel
theorem jd_M_letter_147 : decode jb_M_letter 147 = .ok (.getfield 51, 3) := by decide +kernel
theorem jd_M_letter_150 : decode jb_M_letter 150 = .ok (.iload 6, 2) := by decide +kernel
theorem jd_M_letter_152 : decode jb_M_letter 152 = .ok (.iconst 1, 1) := by decide +kernel
theorem jd_M_letter_153 : decode jb_M_letter 153 = .ok (.iadd, 1) := by decide +kernel
theorem jd_M_letter_154 : decode jb_M_letter 154 = .ok (.baload, 1) := by decide +kernel
theorem jd_M_letter_155 : decode jb_M_letter 155 = .ok (.bastore, 1) := by decide +kernel
theorem jd_M_letter_156 : decode jb_M_letter 156 = .ok (.aload_n 0, 1) := by decide +kernel
theorem jd_M_letter_157 : decode jb_M_letter 157 = .ok (.getfield 54, 3) := by decide +kernel
theorem jd_M_letter_160 : decode jb_M_letter 160 = .ok (.iload 6, 2) := by decide +kernel
theorem jd_M_letter_162 : decode jb_M_letter 162 = .ok (.aload_n 0, 1) := by decide +kernel
theorem jd_M_letter_163 : decode jb_M_letter 163 = .ok (.getfield 54, 3) := by decide +kernel
theorem jd_M_letter_166 : decode jb_M_letter 166 = .ok (.iload 6, 2) := by decide +kernel
theorem jd_M_letter_168 : decode jb_M_letter 168 = .ok (.iconst 1, 1) := by decide +kernel
theorem jd_M_letter_169 : decode jb_M_letter 169 = .ok (.iadd, 1) := by decide +kernel
theorem jd_M_letter_170 : decode jb_M_letter 170 = .ok (.iaload, 1) := by decide +kernel
theorem jd_M_letter_171 : decode jb_M_letter 171 = .ok (.iastore, 1) := by decide +kernel
theorem jd_M_letter_172 : decode jb_M_letter 172 = .ok (.aload_n 0, 1) := by decide +kernel
theorem jd_M_letter_173 : decode jb_M_letter 173 = .ok (.getfield 57, 3) := by decide +kernel
theorem jd_M_letter_176 : decode jb_M_letter 176 = .ok (.iload 6, 2) := by decide +kernel
theorem jd_M_letter_178 : decode jb_M_letter 178 = .ok (.aload_n 0, 1) := by decide +kernel
theorem jd_M_letter_179 : decode jb_M_letter 179 = .ok (.getfield 57, 3) := by decide +kernel
theorem jd_M_letter_182 : decode jb_M_letter 182 = .ok (.iload 6, 2) := by decide +kernel
theorem jd_M_letter_184 : decode jb_M_letter 184 = .ok (.iconst 1, 1) := by decide +kernel
theorem jd_M_letter_185 : decode jb_M_letter 185 = .ok (.iadd, 1) := by decide +kernel
theorem jd_M_letter_186 : decode jb_M_letter 186 = .ok (.iaload, 1) := by decide +kernel
theorem jd_M_letter_187 : decode jb_M_letter 187 = .ok (.iastore, 1) := by decide +kernel
theorem jd_M_letter_188 : decode jb_M_letter 188 = .ok (.iinc 6 1, 3) := by decide +kernel
theorem jd_M_letter_191 : decode jb_M_letter 191 = .ok (.goto (-60), 3) := by decide +kernel
theorem jd_M_letter_194 : decode jb_M_letter 194 = .ok (.iload_n 2, 1) := by decide +kernel
theorem jd_M_letter_195 : decode jb_M_letter 195 = .ok (.ifCond .ne 12, 3) := by decide +kernel
theorem jd_M_letter_198 : decode jb_M_letter 198 = .ok (.aload_n 0, 1) := by decide +kernel
theorem jd_M_letter_199 : decode jb_M_letter 199 = .ok (.iload_n 3, 1) := by decide +kernel
theorem jd_M_letter_200 : decode jb_M_letter 200 = .ok (.iload 4, 2) := by decide +kernel
theorem jd_M_letter_202 : decode jb_M_letter 202 = .ok (.iload 5, 2) := by decide +kernel
theorem jd_M_letter_204 : decode jb_M_letter 204 = .ok (.invokevirtual 163, 3) := by decide +kernel
theorem jd_M_letter_207 : decode jb_M_letter 207 = .ok (.aload_n 0, 1) := by decide +kernel
theorem jd_M_letter_208 : decode jb_M_letter 208 = .ok (.getfield 123, 3) := by decide +kernel
theorem jd_M_letter_211 : decode jb_M_letter 211 = .ok (.ireturn, 1) := by decide +kernel
theorem jd_M_comes_0 : decode jb_M_comes 0 = .ok (.iload_n 1, 1) := by decide +kernel
theorem jd_M_comes_1 : decode jb_M_comes 1 = .ok (.ifCond .ne 55, 3) := by decide +kernel
theorem jd_M_comes_4 : decode jb_M_comes 4 = .ok (.aload_n 0, 1) := by decide +kernel
theorem jd_M_comes_5 : decode jb_M_comes 5 = .ok (.iload_n 2, 1) := by decide +kernel
theorem jd_M_comes_6 : decode jb_M_comes 6 = .ok (.aload_n 0, 1) := by decide +kernel
theorem jd_M_comes_7 : decode jb_M_comes 7 = .ok (.getfield 166, 3) := by decide +kernel
theorem jd_M_comes_10 : decode jb_M_comes 10 = .ok (.if_icmp .le 7, 3) := by decide +kernel
theorem jd_M_comes_13 : decode jb_M_comes 13 = .ok (.iload_n 2, 1) := by decide +kernel
theorem jd_M_comes_14 : decode jb_M_comes 14 = .ok (.goto 7, 3) := by decide +kernel
theorem jd_M_comes_17 : decode jb_M_comes 17 = .ok (.aload_n 0, 1) := by decide +kernel
theorem jd_M_comes_18 : decode jb_M_comes 18 = .ok (.getfield 166, 3) := by decide +kernel
theorem jd_M_comes_21 : decode jb_M_comes 21 = .ok (.putfield 166, 3) := by decide +kernel
theorem jd_M_comes_24 : decode jb_M_comes 24 = .ok (.aload_n 0, 1) := by decide +kernel
theorem jd_M_comes_25 : decode jb_M_comes 25 = .ok (.iconst 1, 1) := by decide +kernel
theorem jd_M_comes_26 : decode jb_M_comes 26 = .ok (.iload_n 2, 1) := by decide +kernel
theorem jd_M_comes_27 : decode jb_M_comes 27 = .ok (.aload_n 0, 1) := by decide +kernel
theorem jd_M_comes_28 : decode jb_M_comes 28 = .ok (.iconst 0, 1) := by decide +kernel
theorem jd_M_comes_29 : decode jb_M_comes 29 = .ok (.aload_n 0, 1) := by decide +kernel
theorem jd_M_comes_30 : decode jb_M_comes 30 = .ok (.getfield 39, 3) := by decide +kernel
theorem jd_M_comes_33 : decode jb_M_comes 33 = .ok (.iload_n 2, 1) := by decide +kernel
theorem jd_M_comes_34 : decode jb_M_comes 34 = .ok (.iaload, 1) := by decide +kernel
theorem jd_M_comes_35 : decode jb_M_comes 35 = .ok (.aload_n 0, 1) := by decide +kernel
theorem jd_M_comes_36 : decode jb_M_comes 36 = .ok (.getfield 42, 3) := by decide +kernel
theorem jd_M_comes_39 : decode jb_M_comes 39 = .ok (.iload_n 2, 1) := by decide +kernel
theorem jd_M_comes_40 : decode jb_M_comes 40 = .ok (.iaload, 1) := by decide +kernel
theorem jd_M_comes_41 : decode jb_M_comes 41 = .ok (.aload_n 0, 1) := by decide +kernel
theorem jd_M_comes_42 : decode jb_M_comes 42 = .ok (.getfield 45, 3) := by decide +kernel
theorem jd_M_comes_45 : decode jb_M_comes 45 = .ok (.iload_n 2, 1) := by decide +kernel
theorem jd_M_comes_46 : decode jb_M_comes 46 = .ok (.iaload, 1) := by decide +kernel
theorem jd_M_comes_47 : decode jb_M_comes 47 = .ok (.invokevirtual 151, 3) := by decide +kernel
theorem jd_M_comes_50 : decode jb_M_comes 50 = .ok (.invokevirtual 132, 3) := by decide +kernel
theorem jd_M_comes_53 : decode jb_M_comes 53 = .ok (.goto 38, 3) := by decide +kernel
theorem jd_M_comes_56 : decode jb_M_comes 56 = .ok (.iload_n 2, 1) := by decide +kernel
theorem jd_M_comes_57 : decode jb_M_comes 57 = .ok (.aload_n 0, 1) := by decide +kernel
theorem jd_M_comes_58 : decode jb_M_comes 58 = .ok (.getfield 129, 3) := by decide +kernel
theorem jd_M_comes_61 : decode jb_M_comes 61 = .ok (.if_icmp .ne 30, 3) := by decide +kernel
theorem jd_M_comes_64 : decode jb_M_comes 64 = .ok (.aload_n 0, 1) := by decide +kernel
theorem jd_M_comes_65 : decode jb_M_comes 65 = .ok (.getfield 126, 3) := by decide +kernel
theorem jd_M_comes_68 : decode jb_M_comes 68 = .ok (.aload_n 0, 1) := by decide +kernel
theorem jd_M_comes_69 : decode jb_M_comes 69 = .ok (.getfield 129, 3) := by decide +kernel
theorem jd_M_comes_72 : decode jb_M_comes 72 = .ok (.if_icmp .ge 19, 3) := by decide +kernel
theorem jd_M_comes_75 : decode jb_M_comes 75 = .ok (.aload_n 0, 1) := by decide +kernel
theorem jd_M_comes_76 : decode jb_M_comes 76 = .ok (.getfield 48, 3) := by decide +kernel
theorem jd_M_comes_79 : decode jb_M_comes 79 = .ok (.iload_n 2, 1) := by decide +kernel
theorem jd_M_comes_80 : decode jb_M_comes 80 = .ok (.iload_n 3, 1) := by decide +kernel
theorem jd_M_comes_81 : decode jb_M_comes 81 = .ok (.iastore, 1) := by decide +kernel
theorem jd_M_comes_82 : decode jb_M_comes 82 = .ok (.aload_n 0, 1) := by decide +kernel
theorem jd_M_comes_83 : decode jb_M_comes 83 = .ok (.iload_n 2, 1) := by decide +kernel
theorem jd_M_comes_84 : decode jb_M_comes 84 = .ok (.putfield 126, 3) := by decide +kernel
theorem jd_M_comes_87 : decode jb_M_comes 87 = .ok (.aload_n 0, 1) := by decide +kernel
theorem jd_M_comes_88 : decode jb_M_comes 88 = .ok (.invokevirtual 120, 3) := by decide +kernel
theorem jd_M_comes_91 : decode jb_M_comes 91 = .ok (.return_, 1) := by decide +kernel
theorem jd_M_told_0 : decode jb_M_told 0 = .ok (.aload_n 0, 1) := by decide +kernel
theorem jd_M_told_1 : decode jb_M_told 1 = .ok (.iconst 0, 1) := by decide +kernel
theorem jd_M_told_2 : decode jb_M_told 2 = .ok (.putfield 66, 3) := by decide +kernel
theorem jd_M_told_5 : decode jb_M_told 5 = .ok (.iload_n 1, 1) := by decide +kernel
theorem jd_M_told_6 : decode jb_M_told 6 = .ok (.iconst 0, 1) := by decide +kernel
theorem jd_M_told_7 : decode jb_M_told 7 = .ok (.aload_n 0, 1) := by decide +kernel
theorem jd_M_told_8 : decode jb_M_told 8 = .ok (.getfield 123, 3) := by decide +kernel
theorem jd_M_told_11 : decode jb_M_told 11 = .ok (.iconst 1, 1) := by decide +kernel
theorem jd_M_told_12 : decode jb_M_told 12 = .ok (.isub, 1) := by decide +kernel
theorem jd_M_told_13 : decode jb_M_told 13 = .ok (.invokestatic 73, 3) := by decide +kernel
theorem jd_M_told_16 : decode jb_M_told 16 = .ok (.ifCond .ne 5, 3) := by decide +kernel
theorem jd_M_told_19 : decode jb_M_told 19 = .ok (.iconst (-1), 1) := by decide +kernel
theorem jd_M_told_20 : decode jb_M_told 20 = .ok (.ireturn, 1) := by decide +kernel
theorem jd_M_told_21 : decode jb_M_told 21 = .ok (.aload_n 0, 1) := by decide +kernel
theorem jd_M_told_22 : decode jb_M_told 22 = .ok (.getfield 54, 3) := by decide +kernel
theorem jd_M_told_25 : decode jb_M_told 25 = .ok (.iload_n 1, 1) := by decide +kernel
theorem jd_M_told_26 : decode jb_M_told 26 = .ok (.iaload, 1) := by decide +kernel
theorem jd_M_told_27 : decode jb_M_told 27 = .ok (.istore_n 3, 1) := by decide +kernel
theorem jd_M_told_28 : decode jb_M_told 28 = .ok (.iload_n 2, 1) := by decide +kernel
theorem jd_M_told_29 : decode jb_M_told 29 = .ok (.tableswitch 117 0 4 #[35, 50, 52, 77, 97], 35) := by decide +kernel
theorem jd_M_told_64 : decode jb_M_told 64 = .ok (.aload_n 0, 1) := by decide +kernel
theorem jd_M_told_65 : decode jb_M_told 65 = .ok (.getfield 51, 3) := by decide +kernel
theorem jd_M_told_68 : decode jb_M_told 68 = .ok (.iload_n 1, 1) := by decide +kernel
theorem jd_M_told_69 : decode jb_M_told 69 = .ok (.baload, 1) := by decide +kernel
theorem jd_M_told_70 : decode jb_M_told 70 = .ok (.ifCond .eq 7, 3) := by decide +kernel
theorem jd_M_told_73 : decode jb_M_told 73 = .ok (.iconst 1, 1) := by decide +kernel
theorem jd_M_told_74 : decode jb_M_told 74 = .ok (.goto 4, 3) := by decide +kernel
theorem jd_M_told_77 : decode jb_M_told 77 = .ok (.iconst 0, 1) := by decide +kernel
theorem jd_M_told_78 : decode jb_M_told 78 = .ok (.ireturn, 1) := by decide +kernel
theorem jd_M_told_79 : decode jb_M_told 79 = .ok (.iload_n 3, 1) := by decide +kernel
theorem jd_M_told_80 : decode jb_M_told 80 = .ok (.ireturn, 1) := by decide +kernel
theorem jd_M_told_81 : decode jb_M_told 81 = .ok (.aload_n 0, 1) := by decide +kernel
theorem jd_M_told_82 : decode jb_M_told 82 = .ok (.getfield 51, 3) := by decide +kernel
theorem jd_M_told_85 : decode jb_M_told 85 = .ok (.iload_n 1, 1) := by decide +kernel
theorem jd_M_told_86 : decode jb_M_told 86 = .ok (.baload, 1) := by decide +kernel
theorem jd_M_told_87 : decode jb_M_told 87 = .ok (.ifCond .eq 12, 3) := by decide +kernel
theorem jd_M_told_90 : decode jb_M_told 90 = .ok (.aload_n 0, 1) := by decide +kernel
theorem jd_M_told_91 : decode jb_M_told 91 = .ok (.getfield 57, 3) := by decide +kernel
theorem jd_M_told_94 : decode jb_M_told 94 = .ok (.iload_n 1, 1) := by decide +kernel
theorem jd_M_told_95 : decode jb_M_told 95 = .ok (.iaload, 1) := by decide +kernel
theorem jd_M_told_96 : decode jb_M_told 96 = .ok (.goto 9, 3) := by decide +kernel
theorem jd_M_told_99 : decode jb_M_told 99 = .ok (.aload_n 0, 1) := by decide +kernel
theorem jd_M_told_100 : decode jb_M_told 100 = .ok (.getfield 39, 3) := by decide +kernel
theorem jd_M_told_103 : decode jb_M_told 103 = .ok (.iload_n 3, 1) := by decide +kernel
theorem jd_M_told_104 : decode jb_M_told 104 = .ok (.iaload, 1) := by decide +kernel
theorem jd_M_told_105 : decode jb_M_told 105 = .ok (.ireturn, 1) := by decide +kernel
theorem jd_M_told_106 : decode jb_M_told 106 = .ok (.aload_n 0, 1) := by decide +kernel
theorem jd_M_told_107 : decode jb_M_told 107 = .ok (.getfield 51, 3) := by decide +kernel
theorem jd_M_told_110 : decode jb_M_told 110 = .ok (.iload_n 1, 1) := by decide +kernel
theorem jd_M_told_111 : decode jb_M_told 111 = .ok (.baload, 1) := by decide +kernel
theorem jd_M_told_112 : decode jb_M_told 112 = .ok (.ifCond .eq 7, 3) := by decide +kernel
theorem jd_M_told_115 : decode jb_M_told 115 = .ok (.iconst (-1), 1) := by decide +kernel
theorem jd_M_told_116 : decode jb_M_told 116 = .ok (.goto 9, 3) := by decide +kernel
theorem jd_M_told_119 : decode jb_M_told 119 = .ok (.aload_n 0, 1) := by decide +kernel
theorem jd_M_told_120 : decode jb_M_told 120 = .ok (.getfield 42, 3) := by decide +kernel
theorem jd_M_told_123 : decode jb_M_told 123 = .ok (.iload_n 3, 1) := by decide +kernel
theorem jd_M_told_124 : decode jb_M_told 124 = .ok (.iaload, 1) := by decide +kernel
theorem jd_M_told_125 : decode jb_M_told 125 = .ok (.ireturn, 1) := by decide +kernel
theorem jd_M_told_126 : decode jb_M_told 126 = .ok (.aload_n 0, 1) := by decide +kernel
theorem jd_M_told_127 : decode jb_M_told 127 = .ok (.getfield 51, 3) := by decide +kernel
theorem jd_M_told_130 : decode jb_M_told 130 = .ok (.iload_n 1, 1) := by decide +kernel
theorem jd_M_told_131 : decode jb_M_told 131 = .ok (.baload, 1) := by decide +kernel
theorem jd_M_told_132 : decode jb_M_told 132 = .ok (.ifCond .eq 7, 3) := by decide +kernel
theorem jd_M_told_135 : decode jb_M_told 135 = .ok (.iconst (-1), 1) := by decide +kernel
theorem jd_M_told_136 : decode jb_M_told 136 = .ok (.goto 9, 3) := by decide +kernel
theorem jd_M_told_139 : decode jb_M_told 139 = .ok (.aload_n 0, 1) := by decide +kernel
theorem jd_M_told_140 : decode jb_M_told 140 = .ok (.getfield 45, 3) := by decide +kernel
theorem jd_M_told_143 : decode jb_M_told 143 = .ok (.iload_n 3, 1) := by decide +kernel
theorem jd_M_told_144 : decode jb_M_told 144 = .ok (.iaload, 1) := by decide +kernel
theorem jd_M_told_145 : decode jb_M_told 145 = .ok (.ireturn, 1) := by decide +kernel
theorem jd_M_told_146 : decode jb_M_told 146 = .ok (.iconst (-1), 1) := by decide +kernel
theorem jd_M_told_147 : decode jb_M_told 147 = .ok (.ireturn, 1) := by decide +kernel
theorem jd_M_tick_0 : decode jb_M_tick 0 = .ok (.aload_n 0, 1) := by decide +kernel
theorem jd_M_tick_1 : decode jb_M_tick 1 = .ok (.aload_n 0, 1) := by decide +kernel
theorem jd_M_tick_2 : decode jb_M_tick 2 = .ok (.getfield 104, 3) := by decide +kernel
theorem jd_M_tick_5 : decode jb_M_tick 5 = .ok (.ifCond .eq 7, 3) := by decide +kernel
theorem jd_M_tick_8 : decode jb_M_tick 8 = .ok (.iconst 0, 1) := by decide +kernel
theorem jd_M_tick_9 : decode jb_M_tick 9 = .ok (.goto 4, 3) := by decide +kernel
theorem jd_M_tick_12 : decode jb_M_tick 12 = .ok (.iconst 1, 1) := by decide +kernel
theorem jd_M_tick_13 : decode jb_M_tick 13 = .ok (.putfield 66, 3) := by decide +kernel
theorem jd_M_tick_16 : decode jb_M_tick 16 = .ok (.aload_n 0, 1) := by decide +kernel
theorem jd_M_tick_17 : decode jb_M_tick 17 = .ok (.getfield 66, 3) := by decide +kernel
theorem jd_M_tick_20 : decode jb_M_tick 20 = .ok (.ifCond .ne 24, 3) := by decide +kernel
theorem jd_M_tick_23 : decode jb_M_tick 23 = .ok (.aload_n 0, 1) := by decide +kernel
theorem jd_M_tick_24 : decode jb_M_tick 24 = .ok (.getfield 126, 3) := by decide +kernel
theorem jd_M_tick_27 : decode jb_M_tick 27 = .ok (.aload_n 0, 1) := by decide +kernel
theorem jd_M_tick_28 : decode jb_M_tick 28 = .ok (.getfield 129, 3) := by decide +kernel
theorem jd_M_tick_31 : decode jb_M_tick 31 = .ok (.if_icmp .ge 13, 3) := by decide +kernel
theorem jd_M_tick_34 : decode jb_M_tick 34 = .ok (.aload_n 0, 1) := by decide +kernel
theorem jd_M_tick_35 : decode jb_M_tick 35 = .ok (.iconst 0, 1) := by decide +kernel
theorem jd_M_tick_36 : decode jb_M_tick 36 = .ok (.aload_n 0, 1) := by decide +kernel
theorem jd_M_tick_37 : decode jb_M_tick 37 = .ok (.getfield 129, 3) := by decide +kernel
theorem jd_M_tick_40 : decode jb_M_tick 40 = .ok (.iconst 0, 1) := by decide +kernel
theorem jd_M_tick_41 : decode jb_M_tick 41 = .ok (.invokevirtual 132, 3) := by decide +kernel
theorem jd_M_tick_44 : decode jb_M_tick 44 = .ok (.aload_n 0, 1) := by decide +kernel
theorem jd_M_tick_45 : decode jb_M_tick 45 = .ok (.getfield 104, 3) := by decide +kernel
theorem jd_M_tick_48 : decode jb_M_tick 48 = .ok (.ifCond .eq 10, 3) := by decide +kernel
theorem jd_M_tick_51 : decode jb_M_tick 51 = .ok (.aload_n 0, 1) := by decide +kernel
theorem jd_M_tick_52 : decode jb_M_tick 52 = .ok (.getfield 123, 3) := by decide +kernel
theorem jd_M_tick_55 : decode jb_M_tick 55 = .ok (.goto 4, 3) := by decide +kernel
theorem jd_M_tick_58 : decode jb_M_tick 58 = .ok (.iconst 0, 1) := by decide +kernel
theorem jd_M_tick_59 : decode jb_M_tick 59 = .ok (.ireturn, 1) := by decide +kernel
theorem jd_M_done_0 : decode jb_M_done 0 = .ok (.aload_n 0, 1) := by decide +kernel
theorem jd_M_done_1 : decode jb_M_done 1 = .ok (.iconst 0, 1) := by decide +kernel
theorem jd_M_done_2 : decode jb_M_done 2 = .ok (.putfield 66, 3) := by decide +kernel
theorem jd_M_done_5 : decode jb_M_done 5 = .ok (.aload_n 0, 1) := by decide +kernel
theorem jd_M_done_6 : decode jb_M_done 6 = .ok (.getfield 32, 3) := by decide +kernel
theorem jd_M_done_9 : decode jb_M_done 9 = .ok (.iconst 4, 1) := by decide +kernel
theorem jd_M_done_10 : decode jb_M_done 10 = .ok (.if_icmp .ne 7, 3) := by decide +kernel
theorem jd_M_done_13 : decode jb_M_done 13 = .ok (.iconst 1, 1) := by decide +kernel
theorem jd_M_done_14 : decode jb_M_done 14 = .ok (.goto 4, 3) := by decide +kernel
theorem jd_M_done_17 : decode jb_M_done 17 = .ok (.iconst 0, 1) := by decide +kernel
theorem jd_M_done_18 : decode jb_M_done 18 = .ok (.ireturn, 1) := by decide +kernel
theorem jd_M_pass_0 : decode jb_M_pass 0 = .ok (.aload_n 0, 1) := by decide +kernel
theorem jd_M_pass_1 : decode jb_M_pass 1 = .ok (.iconst 0, 1) := by decide +kernel
theorem jd_M_pass_2 : decode jb_M_pass 2 = .ok (.putfield 66, 3) := by decide +kernel
theorem jd_M_pass_5 : decode jb_M_pass 5 = .ok (.aload_n 0, 1) := by decide +kernel
theorem jd_M_pass_6 : decode jb_M_pass 6 = .ok (.getfield 32, 3) := by decide +kernel
theorem jd_M_pass_9 : decode jb_M_pass 9 = .ok (.ireturn, 1) := by decide +kernel
theorem jd_M_disclosed_0 : decode jb_M_disclosed 0 = .ok (.aload_n 0, 1) := by decide +kernel
theorem jd_M_disclosed_1 : decode jb_M_disclosed 1 = .ok (.iconst 0, 1) := by decide +kernel
theorem jd_M_disclosed_2 : decode jb_M_disclosed 2 = .ok (.putfield 66, 3) := by decide +kernel
theorem jd_M_disclosed_5 : decode jb_M_disclosed 5 = .ok (.aload_n 0, 1) := by decide +kernel
theorem jd_M_disclosed_6 : decode jb_M_disclosed 6 = .ok (.getfield 166, 3) := by decide +kernel
theorem jd_M_disclosed_9 : decode jb_M_disclosed 9 = .ok (.ireturn, 1) := by decide +kernel
theorem jd_M_answered_0 : decode jb_M_answered 0 = .ok (.aload_n 0, 1) := by decide +kernel
theorem jd_M_answered_1 : decode jb_M_answered 1 = .ok (.iconst 0, 1) := by decide +kernel
theorem jd_M_answered_2 : decode jb_M_answered 2 = .ok (.putfield 66, 3) := by decide +kernel
theorem jd_M_answered_5 : decode jb_M_answered 5 = .ok (.iload_n 1, 1) := by decide +kernel
theorem jd_M_answered_6 : decode jb_M_answered 6 = .ok (.iconst 0, 1) := by decide +kernel
theorem jd_M_answered_7 : decode jb_M_answered 7 = .ok (.aload_n 0, 1) := by decide +kernel
theorem jd_M_answered_8 : decode jb_M_answered 8 = .ok (.getfield 166, 3) := by decide +kernel
theorem jd_M_answered_11 : decode jb_M_answered 11 = .ok (.iconst 1, 1) := by decide +kernel
theorem jd_M_answered_12 : decode jb_M_answered 12 = .ok (.isub, 1) := by decide +kernel
theorem jd_M_answered_13 : decode jb_M_answered 13 = .ok (.invokestatic 73, 3) := by decide +kernel
theorem jd_M_answered_16 : decode jb_M_answered 16 = .ok (.ifCond .eq 39, 3) := by decide +kernel
theorem jd_M_answered_19 : decode jb_M_answered 19 = .ok (.ldc 169, 2) := by decide +kernel
theorem jd_M_answered_21 : decode jb_M_answered 21 = .ok (.aload_n 0, 1) := by decide +kernel
theorem jd_M_answered_22 : decode jb_M_answered 22 = .ok (.getfield 39, 3) := by decide +kernel
theorem jd_M_answered_25 : decode jb_M_answered 25 = .ok (.iload_n 1, 1) := by decide +kernel
theorem jd_M_answered_26 : decode jb_M_answered 26 = .ok (.iconst 1, 1) := by decide +kernel
theorem jd_M_answered_27 : decode jb_M_answered 27 = .ok (.iadd, 1) := by decide +kernel
theorem jd_M_answered_28 : decode jb_M_answered 28 = .ok (.iaload, 1) := by decide +kernel
theorem jd_M_answered_29 : decode jb_M_answered 29 = .ok (.imul, 1) := by decide +kernel
theorem jd_M_answered_30 : decode jb_M_answered 30 = .ok (.sipush 256, 3) := by decide +kernel
theorem jd_M_answered_33 : decode jb_M_answered 33 = .ok (.aload_n 0, 1) := by decide +kernel
theorem jd_M_answered_34 : decode jb_M_answered 34 = .ok (.getfield 42, 3) := by decide +kernel
theorem jd_M_answered_37 : decode jb_M_answered 37 = .ok (.iload_n 1, 1) := by decide +kernel
theorem jd_M_answered_38 : decode jb_M_answered 38 = .ok (.iconst 1, 1) := by decide +kernel
theorem jd_M_answered_39 : decode jb_M_answered 39 = .ok (.iadd, 1) := by decide +kernel
theorem jd_M_answered_40 : decode jb_M_answered 40 = .ok (.iaload, 1) := by decide +kernel
theorem jd_M_answered_41 : decode jb_M_answered 41 = .ok (.imul, 1) := by decide +kernel
theorem jd_M_answered_42 : decode jb_M_answered 42 = .ok (.iadd, 1) := by decide +kernel
theorem jd_M_answered_43 : decode jb_M_answered 43 = .ok (.aload_n 0, 1) := by decide +kernel
theorem jd_M_answered_44 : decode jb_M_answered 44 = .ok (.getfield 45, 3) := by decide +kernel
theorem jd_M_answered_47 : decode jb_M_answered 47 = .ok (.iload_n 1, 1) := by decide +kernel
theorem jd_M_answered_48 : decode jb_M_answered 48 = .ok (.iconst 1, 1) := by decide +kernel
theorem jd_M_answered_49 : decode jb_M_answered 49 = .ok (.iadd, 1) := by decide +kernel
theorem jd_M_answered_50 : decode jb_M_answered 50 = .ok (.iaload, 1) := by decide +kernel
theorem jd_M_answered_51 : decode jb_M_answered 51 = .ok (.iadd, 1) := by decide +kernel
theorem jd_M_answered_52 : decode jb_M_answered 52 = .ok (.goto 4, 3) := by decide +kernel
theorem jd_M_answered_55 : decode jb_M_answered 55 = .ok (.iconst (-1), 1) := by decide +kernel
theorem jd_M_answered_56 : decode jb_M_answered 56 = .ok (.ireturn, 1) := by decide +kernel
theorem jd_M_bit_0 : decode jb_M_bit 0 = .ok (.aload_n 0, 1) := by decide +kernel
theorem jd_M_bit_1 : decode jb_M_bit 1 = .ok (.aload_n 0, 1) := by decide +kernel
theorem jd_M_bit_2 : decode jb_M_bit 2 = .ok (.getfield 77, 3) := by decide +kernel
theorem jd_M_bit_5 : decode jb_M_bit 5 = .ok (.ifCond .ne 7, 3) := by decide +kernel
theorem jd_M_bit_8 : decode jb_M_bit 8 = .ok (.iconst 1, 1) := by decide +kernel
theorem jd_M_bit_9 : decode jb_M_bit 9 = .ok (.goto 29, 3) := by decide +kernel
theorem jd_M_bit_12 : decode jb_M_bit 12 = .ok (.iload_n 1, 1) := by decide +kernel
theorem jd_M_bit_13 : decode jb_M_bit 13 = .ok (.invokestatic 69, 3) := by decide +kernel
theorem jd_M_bit_16 : decode jb_M_bit 16 = .ok (.ifCond .eq 17, 3) := by decide +kernel
theorem jd_M_bit_19 : decode jb_M_bit 19 = .ok (.iload_n 2, 1) := by decide +kernel
theorem jd_M_bit_20 : decode jb_M_bit 20 = .ok (.iconst 0, 1) := by decide +kernel
theorem jd_M_bit_21 : decode jb_M_bit 21 = .ok (.aload_n 0, 1) := by decide +kernel
theorem jd_M_bit_22 : decode jb_M_bit 22 = .ok (.getfield 85, 3) := by decide +kernel
theorem jd_M_bit_25 : decode jb_M_bit 25 = .ok (.iconst 1, 1) := by decide +kernel
theorem jd_M_bit_26 : decode jb_M_bit 26 = .ok (.isub, 1) := by decide +kernel
theorem jd_M_bit_27 : decode jb_M_bit 27 = .ok (.invokestatic 73, 3) := by decide +kernel
theorem jd_M_bit_30 : decode jb_M_bit 30 = .ok (.ifCond .ne 7, 3) := by decide +kernel
theorem jd_M_bit_33 : decode jb_M_bit 33 = .ok (.iconst 2, 1) := by decide +kernel
theorem jd_M_bit_34 : decode jb_M_bit 34 = .ok (.goto 4, 3) := by decide +kernel
theorem jd_M_bit_37 : decode jb_M_bit 37 = .ok (.iconst 0, 1) := by decide +kernel
theorem jd_M_bit_38 : decode jb_M_bit 38 = .ok (.putfield 66, 3) := by decide +kernel
theorem jd_M_bit_41 : decode jb_M_bit 41 = .ok (.aload_n 0, 1) := by decide +kernel
theorem jd_M_bit_42 : decode jb_M_bit 42 = .ok (.getfield 66, 3) := by decide +kernel
theorem jd_M_bit_45 : decode jb_M_bit 45 = .ok (.ifCond .le 7, 3) := by decide +kernel
theorem jd_M_bit_48 : decode jb_M_bit 48 = .ok (.iconst 0, 1) := by decide +kernel
theorem jd_M_bit_49 : decode jb_M_bit 49 = .ok (.goto 15, 3) := by decide +kernel
theorem jd_M_bit_52 : decode jb_M_bit 52 = .ok (.aload_n 0, 1) := by decide +kernel
theorem jd_M_bit_53 : decode jb_M_bit 53 = .ok (.getfield 23, 3) := by decide +kernel
theorem jd_M_bit_56 : decode jb_M_bit 56 = .ok (.sipush 128, 3) := by decide +kernel
theorem jd_M_bit_59 : decode jb_M_bit 59 = .ok (.iload_n 1, 1) := by decide +kernel
theorem jd_M_bit_60 : decode jb_M_bit 60 = .ok (.imul, 1) := by decide +kernel
theorem jd_M_bit_61 : decode jb_M_bit 61 = .ok (.iload_n 2, 1) := by decide +kernel
theorem jd_M_bit_62 : decode jb_M_bit 62 = .ok (.iadd, 1) := by decide +kernel
theorem jd_M_bit_63 : decode jb_M_bit 63 = .ok (.iaload, 1) := by decide +kernel
theorem jd_M_bit_64 : decode jb_M_bit 64 = .ok (.ireturn, 1) := by decide +kernel
theorem jd_M_item_0 : decode jb_M_item 0 = .ok (.aload_n 0, 1) := by decide +kernel
theorem jd_M_item_1 : decode jb_M_item 1 = .ok (.aload_n 0, 1) := by decide +kernel
theorem jd_M_item_2 : decode jb_M_item 2 = .ok (.getfield 104, 3) := by decide +kernel
theorem jd_M_item_5 : decode jb_M_item 5 = .ok (.ifCond .ne 7, 3) := by decide +kernel
theorem jd_M_item_8 : decode jb_M_item 8 = .ok (.iconst 1, 1) := by decide +kernel
theorem jd_M_item_9 : decode jb_M_item 9 = .ok (.goto 31, 3) := by decide +kernel
theorem jd_M_item_12 : decode jb_M_item 12 = .ok (.iload_n 1, 1) := by decide +kernel
theorem jd_M_item_13 : decode jb_M_item 13 = .ok (.iconst 0, 1) := by decide +kernel
theorem jd_M_item_14 : decode jb_M_item 14 = .ok (.iconst 3, 1) := by decide +kernel
theorem jd_M_item_15 : decode jb_M_item 15 = .ok (.invokestatic 73, 3) := by decide +kernel
theorem jd_M_item_18 : decode jb_M_item 18 = .ok (.ifCond .eq 17, 3) := by decide +kernel
theorem jd_M_item_21 : decode jb_M_item 21 = .ok (.iload_n 2, 1) := by decide +kernel
theorem jd_M_item_22 : decode jb_M_item 22 = .ok (.iconst 0, 1) := by decide +kernel
theorem jd_M_item_23 : decode jb_M_item 23 = .ok (.aload_n 0, 1) := by decide +kernel
theorem jd_M_item_24 : decode jb_M_item 24 = .ok (.getfield 85, 3) := by decide +kernel
theorem jd_M_item_27 : decode jb_M_item 27 = .ok (.iconst 1, 1) := by decide +kernel
theorem jd_M_item_28 : decode jb_M_item 28 = .ok (.isub, 1) := by decide +kernel
theorem jd_M_item_29 : decode jb_M_item 29 = .ok (.invokestatic 73, 3) := by decide +kernel
theorem jd_M_item_32 : decode jb_M_item 32 = .ok (.ifCond .ne 7, 3) := by decide +kernel
theorem jd_M_item_35 : decode jb_M_item 35 = .ok (.iconst 2, 1) := by decide +kernel
theorem jd_M_item_36 : decode jb_M_item 36 = .ok (.goto 4, 3) := by decide +kernel
theorem jd_M_item_39 : decode jb_M_item 39 = .ok (.iconst 0, 1) := by decide +kernel
theorem jd_M_item_40 : decode jb_M_item 40 = .ok (.putfield 66, 3) := by decide +kernel
theorem jd_M_item_43 : decode jb_M_item 43 = .ok (.aload_n 0, 1) := by decide +kernel
theorem jd_M_item_44 : decode jb_M_item 44 = .ok (.getfield 66, 3) := by decide +kernel
theorem jd_M_item_47 : decode jb_M_item 47 = .ok (.ifCond .le 7, 3) := by decide +kernel
theorem jd_M_item_50 : decode jb_M_item 50 = .ok (.iconst 0, 1) := by decide +kernel
theorem jd_M_item_51 : decode jb_M_item 51 = .ok (.goto 15, 3) := by decide +kernel
theorem jd_M_item_54 : decode jb_M_item 54 = .ok (.aload_n 0, 1) := by decide +kernel
theorem jd_M_item_55 : decode jb_M_item 55 = .ok (.getfield 36, 3) := by decide +kernel
theorem jd_M_item_58 : decode jb_M_item 58 = .ok (.sipush 128, 3) := by decide +kernel
theorem jd_M_item_61 : decode jb_M_item 61 = .ok (.iload_n 1, 1) := by decide +kernel
theorem jd_M_item_62 : decode jb_M_item 62 = .ok (.imul, 1) := by decide +kernel
theorem jd_M_item_63 : decode jb_M_item 63 = .ok (.iload_n 2, 1) := by decide +kernel
theorem jd_M_item_64 : decode jb_M_item 64 = .ok (.iadd, 1) := by decide +kernel
theorem jd_M_item_65 : decode jb_M_item 65 = .ok (.iaload, 1) := by decide +kernel
theorem jd_M_item_66 : decode jb_M_item 66 = .ok (.ireturn, 1) := by decide +kernel
theorem jd_M_tag_0 : decode jb_M_tag 0 = .ok (.aload_n 0, 1) := by decide +kernel
theorem jd_M_tag_1 : decode jb_M_tag 1 = .ok (.aload_n 0, 1) := by decide +kernel
theorem jd_M_tag_2 : decode jb_M_tag 2 = .ok (.getfield 77, 3) := by decide +kernel
theorem jd_M_tag_5 : decode jb_M_tag 5 = .ok (.ifCond .ne 7, 3) := by decide +kernel
theorem jd_M_tag_8 : decode jb_M_tag 8 = .ok (.iconst 1, 1) := by decide +kernel
theorem jd_M_tag_9 : decode jb_M_tag 9 = .ok (.goto 25, 3) := by decide +kernel
theorem jd_M_tag_12 : decode jb_M_tag 12 = .ok (.iload_n 1, 1) := by decide +kernel
theorem jd_M_tag_13 : decode jb_M_tag 13 = .ok (.invokestatic 69, 3) := by decide +kernel
theorem jd_M_tag_16 : decode jb_M_tag 16 = .ok (.ifCond .eq 13, 3) := by decide +kernel
theorem jd_M_tag_19 : decode jb_M_tag 19 = .ok (.iload_n 2, 1) := by decide +kernel
theorem jd_M_tag_20 : decode jb_M_tag 20 = .ok (.iconst 1, 1) := by decide +kernel
theorem jd_M_tag_21 : decode jb_M_tag 21 = .ok (.ldc 170, 2) := by decide +kernel
theorem jd_M_tag_23 : decode jb_M_tag 23 = .ok (.invokestatic 73, 3) := by decide +kernel
theorem jd_M_tag_26 : decode jb_M_tag 26 = .ok (.ifCond .ne 7, 3) := by decide +kernel
theorem jd_M_tag_29 : decode jb_M_tag 29 = .ok (.iconst 2, 1) := by decide +kernel
theorem jd_M_tag_30 : decode jb_M_tag 30 = .ok (.goto 4, 3) := by decide +kernel
theorem jd_M_tag_33 : decode jb_M_tag 33 = .ok (.iconst 0, 1) := by decide +kernel
theorem jd_M_tag_34 : decode jb_M_tag 34 = .ok (.putfield 66, 3) := by decide +kernel
theorem jd_M_tag_37 : decode jb_M_tag 37 = .ok (.aload_n 0, 1) := by decide +kernel
theorem jd_M_tag_38 : decode jb_M_tag 38 = .ok (.getfield 66, 3) := by decide +kernel
theorem jd_M_tag_41 : decode jb_M_tag 41 = .ok (.ifCond .le 7, 3) := by decide +kernel
theorem jd_M_tag_44 : decode jb_M_tag 44 = .ok (.iconst 0, 1) := by decide +kernel
theorem jd_M_tag_45 : decode jb_M_tag 45 = .ok (.goto 9, 3) := by decide +kernel
theorem jd_M_tag_48 : decode jb_M_tag 48 = .ok (.aload_n 0, 1) := by decide +kernel
theorem jd_M_tag_49 : decode jb_M_tag 49 = .ok (.iload_n 1, 1) := by decide +kernel
theorem jd_M_tag_50 : decode jb_M_tag 50 = .ok (.iload_n 2, 1) := by decide +kernel
theorem jd_M_tag_51 : decode jb_M_tag 51 = .ok (.invokevirtual 175, 3) := by decide +kernel
theorem jd_M_tag_54 : decode jb_M_tag 54 = .ok (.ireturn, 1) := by decide +kernel
theorem jd_M_tagOf_0 : decode jb_M_tagOf 0 = .ok (.iconst 0, 1) := by decide +kernel
theorem jd_M_tagOf_1 : decode jb_M_tagOf 1 = .ok (.istore_n 3, 1) := by decide +kernel
theorem jd_M_tagOf_2 : decode jb_M_tagOf 2 = .ok (.iconst 0, 1) := by decide +kernel
theorem jd_M_tagOf_3 : decode jb_M_tagOf 3 = .ok (.istore 4, 2) := by decide +kernel
theorem jd_M_tagOf_5 : decode jb_M_tagOf 5 = .ok (.iload 4, 2) := by decide +kernel
theorem jd_M_tagOf_7 : decode jb_M_tagOf 7 = .ok (.aload_n 0, 1) := by decide +kernel
theorem jd_M_tagOf_8 : decode jb_M_tagOf 8 = .ok (.getfield 85, 3) := by decide +kernel
theorem jd_M_tagOf_11 : decode jb_M_tagOf 11 = .ok (.if_icmp .ge 73, 3) := by decide +kernel
theorem jd_M_tagOf_14 : decode jb_M_tagOf 14 = .ok (.iconst 0, 1) := by decide +kernel
theorem jd_M_tagOf_15 : decode jb_M_tagOf 15 = .ok (.istore 5, 2) := by decide +kernel
theorem jd_M_tagOf_17 : decode jb_M_tagOf 17 = .ok (.iconst 0, 1) := by decide +kernel
theorem jd_M_tagOf_18 : decode jb_M_tagOf 18 = .ok (.istore 6, 2) := by decide +kernel
theorem jd_M_tagOf_20 : decode jb_M_tagOf 20 = .ok (.iload 6, 2) := by decide +kernel
theorem jd_M_tagOf_22 : decode jb_M_tagOf 22 = .ok (.bipush 16, 2) := by decide +kernel
theorem jd_M_tagOf_24 : decode jb_M_tagOf 24 = .ok (.if_icmp .ge 45, 3) := by decide +kernel
theorem jd_M_tagOf_27 : decode jb_M_tagOf 27 = .ok (.iload 4, 2) := by decide +kernel
theorem jd_M_tagOf_29 : decode jb_M_tagOf 29 = .ok (.iload 6, 2) := by decide +kernel
theorem jd_M_tagOf_31 : decode jb_M_tagOf 31 = .ok (.iadd, 1) := by decide +kernel
theorem jd_M_tagOf_32 : decode jb_M_tagOf 32 = .ok (.aload_n 0, 1) := by decide +kernel
theorem jd_M_tagOf_33 : decode jb_M_tagOf 33 = .ok (.getfield 85, 3) := by decide +kernel
theorem jd_M_tagOf_36 : decode jb_M_tagOf 36 = .ok (.if_icmp .ge 33, 3) := by decide +kernel
theorem jd_M_tagOf_39 : decode jb_M_tagOf 39 = .ok (.iload 5, 2) := by decide +kernel
theorem jd_M_tagOf_41 : decode jb_M_tagOf 41 = .ok (.aload_n 0, 1) := by decide +kernel
theorem jd_M_tagOf_42 : decode jb_M_tagOf 42 = .ok (.getfield 23, 3) := by decide +kernel
theorem jd_M_tagOf_45 : decode jb_M_tagOf 45 = .ok (.sipush 128, 3) := by decide +kernel
theorem jd_M_tagOf_48 : decode jb_M_tagOf 48 = .ok (.iload_n 1, 1) := by decide +kernel
theorem jd_M_tagOf_49 : decode jb_M_tagOf 49 = .ok (.imul, 1) := by decide +kernel
theorem jd_M_tagOf_50 : decode jb_M_tagOf 50 = .ok (.iload 4, 2) := by decide +kernel
theorem jd_M_tagOf_52 : decode jb_M_tagOf 52 = .ok (.iadd, 1) := by decide +kernel
theorem jd_M_tagOf_53 : decode jb_M_tagOf 53 = .ok (.iload 6, 2) := by decide +kernel
theorem jd_M_tagOf_55 : decode jb_M_tagOf 55 = .ok (.iadd, 1) := by decide +kernel
theorem jd_M_tagOf_56 : decode jb_M_tagOf 56 = .ok (.iaload, 1) := by decide +kernel
theorem jd_M_tagOf_57 : decode jb_M_tagOf 57 = .ok (.iload 6, 2) := by decide +kernel
theorem jd_M_tagOf_59 : decode jb_M_tagOf 59 = .ok (.ishl, 1) := by decide +kernel
theorem jd_M_tagOf_60 : decode jb_M_tagOf 60 = .ok (.ior, 1) := by decide +kernel
theorem jd_M_tagOf_61 : decode jb_M_tagOf 61 = .ok (.istore 5, 2) := by decide +kernel
theorem jd_M_tagOf_63 : decode jb_M_tagOf 63 = .ok (.iinc 6 1, 3) := by decide +kernel
theorem jd_M_tagOf_66 : decode jb_M_tagOf 66 = .ok (.goto (-46), 3) := by decide +kernel
theorem jd_M_tagOf_69 : decode jb_M_tagOf 69 = .ok (.iload_n 2, 1) := by decide +kernel
theorem jd_M_tagOf_70 : decode jb_M_tagOf 70 = .ok (.iload_n 3, 1) := by decide +kernel
theorem jd_M_tagOf_71 : decode jb_M_tagOf 71 = .ok (.iload 5, 2) := by decide +kernel
theorem jd_M_tagOf_73 : decode jb_M_tagOf 73 = .ok (.ixor, 1) := by decide +kernel
theorem jd_M_tagOf_74 : decode jb_M_tagOf 74 = .ok (.invokestatic 172, 3) := by decide +kernel
theorem jd_M_tagOf_77 : decode jb_M_tagOf 77 = .ok (.istore_n 3, 1) := by decide +kernel
theorem jd_M_tagOf_78 : decode jb_M_tagOf 78 = .ok (.iinc 4 16, 3) := by decide +kernel
theorem jd_M_tagOf_81 : decode jb_M_tagOf 81 = .ok (.goto (-76), 3) := by decide +kernel
theorem jd_M_tagOf_84 : decode jb_M_tagOf 84 = .ok (.iload_n 2, 1) := by decide +kernel
theorem jd_M_tagOf_85 : decode jb_M_tagOf 85 = .ok (.iload_n 3, 1) := by decide +kernel
theorem jd_M_tagOf_86 : decode jb_M_tagOf 86 = .ok (.aload_n 0, 1) := by decide +kernel
theorem jd_M_tagOf_87 : decode jb_M_tagOf 87 = .ok (.getfield 85, 3) := by decide +kernel
theorem jd_M_tagOf_90 : decode jb_M_tagOf 90 = .ok (.ixor, 1) := by decide +kernel
theorem jd_M_tagOf_91 : decode jb_M_tagOf 91 = .ok (.invokestatic 172, 3) := by decide +kernel
theorem jd_M_tagOf_94 : decode jb_M_tagOf 94 = .ok (.ireturn, 1) := by decide +kernel
theorem jd_M_product_0 : decode jb_M_product 0 = .ok (.iconst 0, 1) := by decide +kernel
theorem jd_M_product_1 : decode jb_M_product 1 = .ok (.istore_n 2, 1) := by decide +kernel
theorem jd_M_product_2 : decode jb_M_product 2 = .ok (.bipush 15, 2) := by decide +kernel
theorem jd_M_product_4 : decode jb_M_product 4 = .ok (.istore_n 3, 1) := by decide +kernel
theorem jd_M_product_5 : decode jb_M_product 5 = .ok (.iload_n 3, 1) := by decide +kernel
theorem jd_M_product_6 : decode jb_M_product 6 = .ok (.ifCond .lt 45, 3) := by decide +kernel
theorem jd_M_product_9 : decode jb_M_product 9 = .ok (.iload_n 2, 1) := by decide +kernel
theorem jd_M_product_10 : decode jb_M_product 10 = .ok (.iconst 1, 1) := by decide +kernel
theorem jd_M_product_11 : decode jb_M_product 11 = .ok (.ishl, 1) := by decide +kernel
theorem jd_M_product_12 : decode jb_M_product 12 = .ok (.istore_n 2, 1) := by decide +kernel
theorem jd_M_product_13 : decode jb_M_product 13 = .ok (.iload_n 2, 1) := by decide +kernel
theorem jd_M_product_14 : decode jb_M_product 14 = .ok (.ldc 170, 2) := by decide +kernel
theorem jd_M_product_16 : decode jb_M_product 16 = .ok (.if_icmp .le 10, 3) := by decide +kernel
theorem jd_M_product_19 : decode jb_M_product 19 = .ok (.iload_n 2, 1) := by decide +kernel
theorem jd_M_product_20 : decode jb_M_product 20 = .ok (.ldc 171, 2) := by decide +kernel
theorem jd_M_product_22 : decode jb_M_product 22 = .ok (.ixor, 1) := by decide +kernel
theorem jd_M_product_23 : decode jb_M_product 23 = .ok (.goto 4, 3) := by decide +kernel
theorem jd_M_product_26 : decode jb_M_product 26 = .ok (.iload_n 2, 1) := by decide +kernel
theorem jd_M_product_27 : decode jb_M_product 27 = .ok (.istore_n 2, 1) := by decide +kernel
theorem jd_M_product_28 : decode jb_M_product 28 = .ok (.iload_n 1, 1) := by decide +kernel
theorem jd_M_product_29 : decode jb_M_product 29 = .ok (.iload_n 3, 1) := by decide +kernel
theorem jd_M_product_30 : decode jb_M_product 30 = .ok (.ishr, 1) := by decide +kernel
theorem jd_M_product_31 : decode jb_M_product 31 = .ok (.iconst 1, 1) := by decide +kernel
theorem jd_M_product_32 : decode jb_M_product 32 = .ok (.iand, 1) := by decide +kernel
theorem jd_M_product_33 : decode jb_M_product 33 = .ok (.iconst 1, 1) := by decide +kernel
theorem jd_M_product_34 : decode jb_M_product 34 = .ok (.if_icmp .ne 9, 3) := by decide +kernel
theorem jd_M_product_37 : decode jb_M_product 37 = .ok (.iload_n 2, 1) := by decide +kernel
theorem jd_M_product_38 : decode jb_M_product 38 = .ok (.iload_n 0, 1) := by decide +kernel
theorem jd_M_product_39 : decode jb_M_product 39 = .ok (.ixor, 1) := by decide +kernel
theorem jd_M_product_40 : decode jb_M_product 40 = .ok (.goto 4, 3) := by decide +kernel
theorem jd_M_product_43 : decode jb_M_product 43 = .ok (.iload_n 2, 1) := by decide +kernel
theorem jd_M_product_44 : decode jb_M_product 44 = .ok (.istore_n 2, 1) := by decide +kernel
theorem jd_M_product_45 : decode jb_M_product 45 = .ok (.iinc 3 (-1), 3) := by decide +kernel
theorem jd_M_product_48 : decode jb_M_product 48 = .ok (.goto (-43), 3) := by decide +kernel
theorem jd_M_product_51 : decode jb_M_product 51 = .ok (.iload_n 2, 1) := by decide +kernel
theorem jd_M_product_52 : decode jb_M_product 52 = .ok (.ireturn, 1) := by decide +kernel
theorem jd_M_shorten_0 : decode jb_M_shorten 0 = .ok (.aload_n 0, 1) := by decide +kernel
theorem jd_M_shorten_1 : decode jb_M_shorten 1 = .ok (.aload_n 0, 1) := by decide +kernel
theorem jd_M_shorten_2 : decode jb_M_shorten 2 = .ok (.getfield 32, 3) := by decide +kernel
theorem jd_M_shorten_5 : decode jb_M_shorten 5 = .ok (.iconst 4, 1) := by decide +kernel
theorem jd_M_shorten_6 : decode jb_M_shorten 6 = .ok (.if_icmp .eq 7, 3) := by decide +kernel
theorem jd_M_shorten_9 : decode jb_M_shorten 9 = .ok (.iconst 1, 1) := by decide +kernel
theorem jd_M_shorten_10 : decode jb_M_shorten 10 = .ok (.goto 30, 3) := by decide +kernel
theorem jd_M_shorten_13 : decode jb_M_shorten 13 = .ok (.iload_n 3, 1) := by decide +kernel
theorem jd_M_shorten_14 : decode jb_M_shorten 14 = .ok (.iconst 1, 1) := by decide +kernel
theorem jd_M_shorten_15 : decode jb_M_shorten 15 = .ok (.ldc 170, 2) := by decide +kernel
theorem jd_M_shorten_17 : decode jb_M_shorten 17 = .ok (.invokestatic 73, 3) := by decide +kernel
theorem jd_M_shorten_20 : decode jb_M_shorten 20 = .ok (.ifCond .eq 15, 3) := by decide +kernel
theorem jd_M_shorten_23 : decode jb_M_shorten 23 = .ok (.iload 4, 2) := by decide +kernel
theorem jd_M_shorten_25 : decode jb_M_shorten 25 = .ok (.iconst 0, 1) := by decide +kernel
theorem jd_M_shorten_26 : decode jb_M_shorten 26 = .ok (.sipush 128, 3) := by decide +kernel
theorem jd_M_shorten_29 : decode jb_M_shorten 29 = .ok (.invokestatic 73, 3) := by decide +kernel
theorem jd_M_shorten_32 : decode jb_M_shorten 32 = .ok (.ifCond .ne 7, 3) := by decide +kernel
theorem jd_M_shorten_35 : decode jb_M_shorten 35 = .ok (.iconst 2, 1) := by decide +kernel
theorem jd_M_shorten_36 : decode jb_M_shorten 36 = .ok (.goto 4, 3) := by decide +kernel
theorem jd_M_shorten_39 : decode jb_M_shorten 39 = .ok (.iconst 0, 1) := by decide +kernel
theorem jd_M_shorten_40 : decode jb_M_shorten 40 = .ok (.putfield 66, 3) := by decide +kernel
theorem jd_M_shorten_43 : decode jb_M_shorten 43 = .ok (.aload_n 0, 1) := by decide +kernel
theorem jd_M_shorten_44 : decode jb_M_shorten 44 = .ok (.getfield 66, 3) := by decide +kernel
theorem jd_M_shorten_47 : decode jb_M_shorten 47 = .ok (.ifCond .le 5, 3) := by decide +kernel
theorem jd_M_shorten_50 : decode jb_M_shorten 50 = .ok (.iconst 0, 1) := by decide +kernel
theorem jd_M_shorten_51 : decode jb_M_shorten 51 = .ok (.ireturn, 1) := by decide +kernel
theorem jd_M_shorten_52 : decode jb_M_shorten 52 = .ok (.aload_n 0, 1) := by decide +kernel
theorem jd_M_shorten_53 : decode jb_M_shorten 53 = .ok (.getfield 85, 3) := by decide +kernel
theorem jd_M_shorten_56 : decode jb_M_shorten 56 = .ok (.aload_n 0, 1) := by decide +kernel
theorem jd_M_shorten_57 : decode jb_M_shorten 57 = .ok (.getfield 166, 3) := by decide +kernel
theorem jd_M_shorten_60 : decode jb_M_shorten 60 = .ok (.isub, 1) := by decide +kernel
theorem jd_M_shorten_61 : decode jb_M_shorten 61 = .ok (.iload 4, 2) := by decide +kernel
theorem jd_M_shorten_63 : decode jb_M_shorten 63 = .ok (.isub, 1) := by decide +kernel
theorem jd_M_shorten_64 : decode jb_M_shorten 64 = .ok (.bipush 16, 2) := by decide +kernel
theorem jd_M_shorten_66 : decode jb_M_shorten 66 = .ok (.isub, 1) := by decide +kernel
theorem jd_M_shorten_67 : decode jb_M_shorten 67 = .ok (.istore 5, 2) := by decide +kernel
theorem jd_M_shorten_69 : decode jb_M_shorten 69 = .ok (.aload_n 0, 1) := by decide +kernel
theorem jd_M_shorten_70 : decode jb_M_shorten 70 = .ok (.iconst 0, 1) := by decide +kernel
theorem jd_M_shorten_71 : decode jb_M_shorten 71 = .ok (.iload_n 3, 1) := by decide +kernel
theorem jd_M_shorten_72 : decode jb_M_shorten 72 = .ok (.invokevirtual 175, 3) := by decide +kernel
theorem jd_M_shorten_75 : decode jb_M_shorten 75 = .ok (.aload_n 0, 1) := by decide +kernel
theorem jd_M_shorten_76 : decode jb_M_shorten 76 = .ok (.iconst 1, 1) := by decide +kernel
theorem jd_M_shorten_77 : decode jb_M_shorten 77 = .ok (.iload_n 3, 1) := by decide +kernel
theorem jd_M_shorten_78 : decode jb_M_shorten 78 = .ok (.invokevirtual 175, 3) := by decide +kernel
theorem jd_M_shorten_81 : decode jb_M_shorten 81 = .ok (.if_icmp .ne 9, 3) := by decide +kernel
theorem jd_M_shorten_84 : decode jb_M_shorten 84 = .ok (.iload 5, 2) := by decide +kernel
theorem jd_M_shorten_86 : decode jb_M_shorten 86 = .ok (.iconst 1, 1) := by decide +kernel
theorem jd_M_shorten_87 : decode jb_M_shorten 87 = .ok (.if_icmp .ge 9, 3) := by decide +kernel
theorem jd_M_shorten_90 : decode jb_M_shorten 90 = .ok (.aload_n 0, 1) := by decide +kernel
theorem jd_M_shorten_91 : decode jb_M_shorten 91 = .ok (.iconst 3, 1) := by decide +kernel
theorem jd_M_shorten_92 : decode jb_M_shorten 92 = .ok (.invokevirtual 81, 3) := by decide +kernel
theorem jd_M_shorten_95 : decode jb_M_shorten 95 = .ok (.ireturn, 1) := by decide +kernel
theorem jd_M_shorten_96 : decode jb_M_shorten 96 = .ok (.aload_n 0, 1) := by decide +kernel
theorem jd_M_shorten_97 : decode jb_M_shorten 97 = .ok (.lload_n 1, 1) := by decide +kernel
theorem jd_M_shorten_98 : decode jb_M_shorten 98 = .ok (.putfield 88, 3) := by decide +kernel
theorem jd_M_shorten_101 : decode jb_M_shorten 101 = .ok (.iconst 0, 1) := by decide +kernel
theorem jd_M_shorten_102 : decode jb_M_shorten 102 = .ok (.istore 6, 2) := by decide +kernel
theorem jd_M_shorten_104 : decode jb_M_shorten 104 = .ok (.iload 6, 2) := by decide +kernel
theorem jd_M_shorten_106 : decode jb_M_shorten 106 = .ok (.aload_n 0, 1) := by decide +kernel
theorem jd_M_shorten_107 : decode jb_M_shorten 107 = .ok (.getfield 85, 3) := by decide +kernel
theorem jd_M_shorten_110 : decode jb_M_shorten 110 = .ok (.iload 5, 2) := by decide +kernel
theorem jd_M_shorten_112 : decode jb_M_shorten 112 = .ok (.iadd, 1) := by decide +kernel
theorem jd_M_shorten_113 : decode jb_M_shorten 113 = .ok (.iconst 1, 1) := by decide +kernel
theorem jd_M_shorten_114 : decode jb_M_shorten 114 = .ok (.isub, 1) := by decide +kernel
theorem jd_M_shorten_115 : decode jb_M_shorten 115 = .ok (.if_icmp .ge 34, 3) := by decide +kernel
theorem jd_M_shorten_118 : decode jb_M_shorten 118 = .ok (.aload_n 0, 1) := by decide +kernel
theorem jd_M_shorten_119 : decode jb_M_shorten 119 = .ok (.invokevirtual 98, 3) := by decide +kernel
theorem jd_M_shorten_122 : decode jb_M_shorten 122 = .ok (.aload_n 0, 1) := by decide +kernel
theorem jd_M_shorten_123 : decode jb_M_shorten 123 = .ok (.getfield 63, 3) := by decide +kernel
theorem jd_M_shorten_126 : decode jb_M_shorten 126 = .ok (.iload 6, 2) := by decide +kernel
theorem jd_M_shorten_128 : decode jb_M_shorten 128 = .ok (.aload_n 0, 1) := by decide +kernel
theorem jd_M_shorten_129 : decode jb_M_shorten 129 = .ok (.getfield 88, 3) := by decide +kernel
theorem jd_M_shorten_132 : decode jb_M_shorten 132 = .ok (.lconst 0, 1) := by decide +kernel
theorem jd_M_shorten_133 : decode jb_M_shorten 133 = .ok (.lcmp, 1) := by decide +kernel
theorem jd_M_shorten_134 : decode jb_M_shorten 134 = .ok (.ifCond .ge 7, 3) := by decide +kernel
theorem jd_M_shorten_137 : decode jb_M_shorten 137 = .ok (.iconst 1, 1) := by decide +kernel
theorem jd_M_shorten_138 : decode jb_M_shorten 138 = .ok (.goto 4, 3) := by decide +kernel
theorem jd_M_shorten_141 : decode jb_M_shorten 141 = .ok (.iconst 0, 1) := by decide +kernel
theorem jd_M_shorten_142 : decode jb_M_shorten 142 = .ok (.iastore, 1) := by decide +kernel
theorem jd_M_shorten_143 : decode jb_M_shorten 143 = .ok (.iinc 6 1, 3) := by decide +kernel
theorem jd_M_shorten_146 : decode jb_M_shorten 146 = .ok (.goto (-42), 3) := by decide +kernel
theorem jd_M_shorten_149 : decode jb_M_shorten 149 = .ok (.aload_n 0, 1) := by decide +kernel
theorem jd_M_shorten_150 : decode jb_M_shorten 150 = .ok (.iload 5, 2) := by decide +kernel
theorem jd_M_shorten_152 : decode jb_M_shorten 152 = .ok (.putfield 178, 3) := by decide +kernel
theorem jd_M_shorten_155 : decode jb_M_shorten 155 = .ok (.iconst 0, 1) := by decide +kernel
theorem jd_M_shorten_156 : decode jb_M_shorten 156 = .ok (.istore 6, 2) := by decide +kernel
theorem jd_M_shorten_158 : decode jb_M_shorten 158 = .ok (.iload 6, 2) := by decide +kernel
theorem jd_M_shorten_160 : decode jb_M_shorten 160 = .ok (.iload 5, 2) := by decide +kernel
theorem jd_M_shorten_162 : decode jb_M_shorten 162 = .ok (.if_icmp .ge 96, 3) := by decide +kernel
theorem jd_M_shorten_165 : decode jb_M_shorten 165 = .ok (.iconst 0, 1) := by decide +kernel
theorem jd_M_shorten_166 : decode jb_M_shorten 166 = .ok (.istore 7, 2) := by decide +kernel
theorem jd_M_shorten_168 : decode jb_M_shorten 168 = .ok (.iload 7, 2) := by decide +kernel
theorem jd_M_shorten_170 : decode jb_M_shorten 170 = .ok (.iconst 2, 1) := by decide +kernel
theorem jd_M_shorten_171 : decode jb_M_shorten 171 = .ok (.if_icmp .ge 81, 3) := by decide +kernel
theorem jd_M_shorten_174 : decode jb_M_shorten 174 = .ok (.iconst 0, 1) := by decide +kernel
theorem jd_M_shorten_175 : decode jb_M_shorten 175 = .ok (.istore 8, 2) := by decide +kernel
theorem jd_M_shorten_177 : decode jb_M_shorten 177 = .ok (.iconst 0, 1) := by decide +kernel
theorem jd_M_shorten_178 : decode jb_M_shorten 178 = .ok (.istore 9, 2) := by decide +kernel
theorem jd_M_shorten_180 : decode jb_M_shorten 180 = .ok (.iload 9, 2) := by decide +kernel
theorem jd_M_shorten_182 : decode jb_M_shorten 182 = .ok (.aload_n 0, 1) := by decide +kernel
theorem jd_M_shorten_183 : decode jb_M_shorten 183 = .ok (.getfield 85, 3) := by decide +kernel
theorem jd_M_shorten_186 : decode jb_M_shorten 186 = .ok (.if_icmp .ge 44, 3) := by decide +kernel
theorem jd_M_shorten_189 : decode jb_M_shorten 189 = .ok (.iload 8, 2) := by decide +kernel
theorem jd_M_shorten_191 : decode jb_M_shorten 191 = .ok (.aload_n 0, 1) := by decide +kernel
theorem jd_M_shorten_192 : decode jb_M_shorten 192 = .ok (.getfield 23, 3) := by decide +kernel
theorem jd_M_shorten_195 : decode jb_M_shorten 195 = .ok (.sipush 128, 3) := by decide +kernel
theorem jd_M_shorten_198 : decode jb_M_shorten 198 = .ok (.iload 7, 2) := by decide +kernel
theorem jd_M_shorten_200 : decode jb_M_shorten 200 = .ok (.imul, 1) := by decide +kernel
theorem jd_M_shorten_201 : decode jb_M_shorten 201 = .ok (.iload 9, 2) := by decide +kernel
theorem jd_M_shorten_203 : decode jb_M_shorten 203 = .ok (.iadd, 1) := by decide +kernel
theorem jd_M_shorten_204 : decode jb_M_shorten 204 = .ok (.iaload, 1) := by decide +kernel
theorem jd_M_shorten_205 : decode jb_M_shorten 205 = .ok (.aload_n 0, 1) := by decide +kernel
theorem jd_M_shorten_206 : decode jb_M_shorten 206 = .ok (.getfield 63, 3) := by decide +kernel
theorem jd_M_shorten_209 : decode jb_M_shorten 209 = .ok (.iload 9, 2) := by decide +kernel
theorem jd_M_shorten_211 : decode jb_M_shorten 211 = .ok (.iload 5, 2) := by decide +kernel
theorem jd_M_shorten_213 : decode jb_M_shorten 213 = .ok (.iadd, 1) := by decide +kernel
theorem jd_M_shorten_214 : decode jb_M_shorten 214 = .ok (.iconst 1, 1) := by decide +kernel
theorem jd_M_shorten_215 : decode jb_M_shorten 215 = .ok (.isub, 1) := by decide +kernel
theorem jd_M_shorten_216 : decode jb_M_shorten 216 = .ok (.iload 6, 2) := by decide +kernel
theorem jd_M_shorten_218 : decode jb_M_shorten 218 = .ok (.isub, 1) := by decide +kernel
theorem jd_M_shorten_219 : decode jb_M_shorten 219 = .ok (.iaload, 1) := by decide +kernel
theorem jd_M_shorten_220 : decode jb_M_shorten 220 = .ok (.iand, 1) := by decide +kernel
theorem jd_M_shorten_221 : decode jb_M_shorten 221 = .ok (.ixor, 1) := by decide +kernel
theorem jd_M_shorten_222 : decode jb_M_shorten 222 = .ok (.istore 8, 2) := by decide +kernel
theorem jd_M_shorten_224 : decode jb_M_shorten 224 = .ok (.iinc 9 1, 3) := by decide +kernel
theorem jd_M_shorten_227 : decode jb_M_shorten 227 = .ok (.goto (-47), 3) := by decide +kernel
theorem jd_M_shorten_230 : decode jb_M_shorten 230 = .ok (.aload_n 0, 1) := by decide +kernel
theorem jd_M_shorten_231 : decode jb_M_shorten 231 = .ok (.getfield 60, 3) := by decide +kernel
theorem jd_M_shorten_234 : decode jb_M_shorten 234 = .ok (.sipush 128, 3) := by decide +kernel
theorem jd_M_shorten_237 : decode jb_M_shorten 237 = .ok (.iload 7, 2) := by decide +kernel
theorem jd_M_shorten_239 : decode jb_M_shorten 239 = .ok (.imul, 1) := by decide +kernel
theorem jd_M_shorten_240 : decode jb_M_shorten 240 = .ok (.iload 6, 2) := by decide +kernel
theorem jd_M_shorten_242 : decode jb_M_shorten 242 = .ok (.iadd, 1) := by decide +kernel
theorem jd_M_shorten_243 : decode jb_M_shorten 243 = .ok (.iload 8, 2) := by decide +kernel
theorem jd_M_shorten_245 : decode jb_M_shorten 245 = .ok (.iastore, 1) := by decide +kernel
theorem jd_M_shorten_246 : decode jb_M_shorten 246 = .ok (.iinc 7 1, 3) := by decide +kernel
theorem jd_M_shorten_249 : decode jb_M_shorten 249 = .ok (.goto (-81), 3) := by decide +kernel
theorem jd_M_shorten_252 : decode jb_M_shorten 252 = .ok (.iinc 6 1, 3) := by decide +kernel
theorem jd_M_shorten_255 : decode jb_M_shorten 255 = .ok (.goto (-97), 3) := by decide +kernel
theorem jd_M_shorten_258 : decode jb_M_shorten 258 = .ok (.iload 5, 2) := by decide +kernel
theorem jd_M_shorten_260 : decode jb_M_shorten 260 = .ok (.ireturn, 1) := by decide +kernel
theorem jd_M_key_0 : decode jb_M_key 0 = .ok (.aload_n 0, 1) := by decide +kernel
theorem jd_M_key_1 : decode jb_M_key 1 = .ok (.iload_n 1, 1) := by decide +kernel
theorem jd_M_key_2 : decode jb_M_key 2 = .ok (.invokestatic 69, 3) := by decide +kernel
theorem jd_M_key_5 : decode jb_M_key 5 = .ok (.ifCond .eq 21, 3) := by decide +kernel
theorem jd_M_key_8 : decode jb_M_key 8 = .ok (.iload_n 2, 1) := by decide +kernel
theorem jd_M_key_9 : decode jb_M_key 9 = .ok (.iconst 0, 1) := by decide +kernel
theorem jd_M_key_10 : decode jb_M_key 10 = .ok (.aload_n 0, 1) := by decide +kernel
theorem jd_M_key_11 : decode jb_M_key 11 = .ok (.getfield 178, 3) := by decide +kernel
theorem jd_M_key_14 : decode jb_M_key 14 = .ok (.iconst 1, 1) := by decide +kernel
theorem jd_M_key_15 : decode jb_M_key 15 = .ok (.isub, 1) := by decide +kernel
theorem jd_M_key_16 : decode jb_M_key 16 = .ok (.invokestatic 73, 3) := by decide +kernel
theorem jd_M_key_19 : decode jb_M_key 19 = .ok (.ifCond .eq 7, 3) := by decide +kernel
theorem jd_M_key_22 : decode jb_M_key 22 = .ok (.iconst 0, 1) := by decide +kernel
theorem jd_M_key_23 : decode jb_M_key 23 = .ok (.goto 4, 3) := by decide +kernel
theorem jd_M_key_26 : decode jb_M_key 26 = .ok (.iconst 1, 1) := by decide +kernel
theorem jd_M_key_27 : decode jb_M_key 27 = .ok (.putfield 66, 3) := by decide +kernel
theorem jd_M_key_30 : decode jb_M_key 30 = .ok (.aload_n 0, 1) := by decide +kernel
theorem jd_M_key_31 : decode jb_M_key 31 = .ok (.getfield 66, 3) := by decide +kernel
theorem jd_M_key_34 : decode jb_M_key 34 = .ok (.ifCond .le 7, 3) := by decide +kernel
theorem jd_M_key_37 : decode jb_M_key 37 = .ok (.iconst 0, 1) := by decide +kernel
theorem jd_M_key_38 : decode jb_M_key 38 = .ok (.goto 15, 3) := by decide +kernel
theorem jd_M_key_41 : decode jb_M_key 41 = .ok (.aload_n 0, 1) := by decide +kernel
theorem jd_M_key_42 : decode jb_M_key 42 = .ok (.getfield 60, 3) := by decide +kernel
theorem jd_M_key_45 : decode jb_M_key 45 = .ok (.sipush 128, 3) := by decide +kernel
theorem jd_M_key_48 : decode jb_M_key 48 = .ok (.iload_n 1, 1) := by decide +kernel
theorem jd_M_key_49 : decode jb_M_key 49 = .ok (.imul, 1) := by decide +kernel
theorem jd_M_key_50 : decode jb_M_key 50 = .ok (.iload_n 2, 1) := by decide +kernel
theorem jd_M_key_51 : decode jb_M_key 51 = .ok (.iadd, 1) := by decide +kernel
theorem jd_M_key_52 : decode jb_M_key 52 = .ok (.iaload, 1) := by decide +kernel
theorem jd_M_key_53 : decode jb_M_key 53 = .ok (.ireturn, 1) := by decide +kernel
