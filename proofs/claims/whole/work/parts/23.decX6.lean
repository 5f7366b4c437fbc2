theorem dX6_init_0 : decode cX6_init 0 = .ok (.aload_n 0, 1) := by decide +kernel
theorem dX6_init_1 : decode cX6_init 1 = .ok (.invokespecial 1, 3) := by decide +kernel
theorem dX6_init_4 : decode cX6_init 4 = .ok (.aload_n 0, 1) := by decide +kernel
theorem dX6_init_5 : decode cX6_init 5 = .ok (.sipush 2400, 3) := by decide +kernel
theorem dX6_init_8 : decode cX6_init 8 = .ok (.newarray .int, 2) := by decide +kernel
theorem dX6_init_10 : decode cX6_init 10 = .ok (.putfield 9, 3) := by decide +kernel
theorem dX6_init_13 : decode cX6_init 13 = .ok (.aload_n 0, 1) := by decide +kernel
theorem dX6_init_14 : decode cX6_init 14 = .ok (.iconst (-1), 1) := by decide +kernel
theorem dX6_init_15 : decode cX6_init 15 = .ok (.putfield 13, 3) := by decide +kernel
theorem dX6_init_18 : decode cX6_init 18 = .ok (.aload_n 0, 1) := by decide +kernel
theorem dX6_init_19 : decode cX6_init 19 = .ok (.bipush 100, 2) := by decide +kernel
theorem dX6_init_21 : decode cX6_init 21 = .ok (.newarray .int, 2) := by decide +kernel
theorem dX6_init_23 : decode cX6_init 23 = .ok (.putfield 17, 3) := by decide +kernel
theorem dX6_init_26 : decode cX6_init 26 = .ok (.aload_n 0, 1) := by decide +kernel
theorem dX6_init_27 : decode cX6_init 27 = .ok (.bipush 100, 2) := by decide +kernel
theorem dX6_init_29 : decode cX6_init 29 = .ok (.newarray .int, 2) := by decide +kernel
theorem dX6_init_31 : decode cX6_init 31 = .ok (.putfield 20, 3) := by decide +kernel
theorem dX6_init_34 : decode cX6_init 34 = .ok (.aload_n 0, 1) := by decide +kernel
theorem dX6_init_35 : decode cX6_init 35 = .ok (.sipush 400, 3) := by decide +kernel
theorem dX6_init_38 : decode cX6_init 38 = .ok (.newarray .int, 2) := by decide +kernel
theorem dX6_init_40 : decode cX6_init 40 = .ok (.putfield 23, 3) := by decide +kernel
theorem dX6_init_43 : decode cX6_init 43 = .ok (.aload_n 0, 1) := by decide +kernel
theorem dX6_init_44 : decode cX6_init 44 = .ok (.bipush 100, 2) := by decide +kernel
theorem dX6_init_46 : decode cX6_init 46 = .ok (.newarray .int, 2) := by decide +kernel
theorem dX6_init_48 : decode cX6_init 48 = .ok (.putfield 26, 3) := by decide +kernel
theorem dX6_init_51 : decode cX6_init 51 = .ok (.aload_n 0, 1) := by decide +kernel
theorem dX6_init_52 : decode cX6_init 52 = .ok (.bipush 100, 2) := by decide +kernel
theorem dX6_init_54 : decode cX6_init 54 = .ok (.newarray .int, 2) := by decide +kernel
theorem dX6_init_56 : decode cX6_init 56 = .ok (.putfield 29, 3) := by decide +kernel
theorem dX6_init_59 : decode cX6_init 59 = .ok (.aload_n 0, 1) := by decide +kernel
theorem dX6_init_60 : decode cX6_init 60 = .ok (.bipush 100, 2) := by decide +kernel
theorem dX6_init_62 : decode cX6_init 62 = .ok (.newarray .int, 2) := by decide +kernel
theorem dX6_init_64 : decode cX6_init 64 = .ok (.putfield 32, 3) := by decide +kernel
theorem dX6_init_67 : decode cX6_init 67 = .ok (.aload_n 0, 1) := by decide +kernel
theorem dX6_init_68 : decode cX6_init 68 = .ok (.bipush 100, 2) := by decide +kernel
theorem dX6_init_70 : decode cX6_init 70 = .ok (.newarray .int, 2) := by decide +kernel
theorem dX6_init_72 : decode cX6_init 72 = .ok (.putfield 35, 3) := by decide +kernel
theorem dX6_init_75 : decode cX6_init 75 = .ok (.aload_n 0, 1) := by decide +kernel
theorem dX6_init_76 : decode cX6_init 76 = .ok (.bipush 100, 2) := by decide +kernel
theorem dX6_init_78 : decode cX6_init 78 = .ok (.newarray .int, 2) := by decide +kernel
theorem dX6_init_80 : decode cX6_init 80 = .ok (.putfield 38, 3) := by decide +kernel
theorem dX6_init_83 : decode cX6_init 83 = .ok (.aload_n 0, 1) := by decide +kernel
theorem dX6_init_84 : decode cX6_init 84 = .ok (.bipush 100, 2) := by decide +kernel
theorem dX6_init_86 : decode cX6_init 86 = .ok (.newarray .boolean, 2) := by decide +kernel
theorem dX6_init_88 : decode cX6_init 88 = .ok (.putfield 41, 3) := by decide +kernel
theorem dX6_init_91 : decode cX6_init 91 = .ok (.aload_n 0, 1) := by decide +kernel
theorem dX6_init_92 : decode cX6_init 92 = .ok (.bipush 100, 2) := by decide +kernel
theorem dX6_init_94 : decode cX6_init 94 = .ok (.newarray .boolean, 2) := by decide +kernel
theorem dX6_init_96 : decode cX6_init 96 = .ok (.putfield 45, 3) := by decide +kernel
theorem dX6_init_99 : decode cX6_init 99 = .ok (.aload_n 0, 1) := by decide +kernel
theorem dX6_init_100 : decode cX6_init 100 = .ok (.sipush 2400, 3) := by decide +kernel
theorem dX6_init_103 : decode cX6_init 103 = .ok (.newarray .int, 2) := by decide +kernel
theorem dX6_init_105 : decode cX6_init 105 = .ok (.putfield 48, 3) := by decide +kernel
theorem dX6_init_108 : decode cX6_init 108 = .ok (.aload_n 0, 1) := by decide +kernel
theorem dX6_init_109 : decode cX6_init 109 = .ok (.sipush 400, 3) := by decide +kernel
theorem dX6_init_112 : decode cX6_init 112 = .ok (.newarray .int, 2) := by decide +kernel
theorem dX6_init_114 : decode cX6_init 114 = .ok (.putfield 51, 3) := by decide +kernel
theorem dX6_init_117 : decode cX6_init 117 = .ok (.aload_n 0, 1) := by decide +kernel
theorem dX6_init_118 : decode cX6_init 118 = .ok (.sipush 401, 3) := by decide +kernel
theorem dX6_init_121 : decode cX6_init 121 = .ok (.newarray .int, 2) := by decide +kernel
theorem dX6_init_123 : decode cX6_init 123 = .ok (.putfield 54, 3) := by decide +kernel
theorem dX6_init_126 : decode cX6_init 126 = .ok (.aload_n 0, 1) := by decide +kernel
theorem dX6_init_127 : decode cX6_init 127 = .ok (.sipush 401, 3) := by decide +kernel
theorem dX6_init_130 : decode cX6_init 130 = .ok (.newarray .int, 2) := by decide +kernel
theorem dX6_init_132 : decode cX6_init 132 = .ok (.putfield 57, 3) := by decide +kernel
theorem dX6_init_135 : decode cX6_init 135 = .ok (.aload_n 0, 1) := by decide +kernel
theorem dX6_init_136 : decode cX6_init 136 = .ok (.sipush 401, 3) := by decide +kernel
theorem dX6_init_139 : decode cX6_init 139 = .ok (.sipush 1600, 3) := by decide +kernel
theorem dX6_init_142 : decode cX6_init 142 = .ok (.multianewarray 60 2, 4) := by decide +kernel
theorem dX6_init_146 : decode cX6_init 146 = .ok (.putfield 62, 3) := by decide +kernel
theorem dX6_init_149 : decode cX6_init 149 = .ok (.aload_n 0, 1) := by decide +kernel
theorem dX6_init_150 : decode cX6_init 150 = .ok (.sipush 1600, 3) := by decide +kernel
theorem dX6_init_153 : decode cX6_init 153 = .ok (.newarray .int, 2) := by decide +kernel
theorem dX6_init_155 : decode cX6_init 155 = .ok (.putfield 65, 3) := by decide +kernel
theorem dX6_init_158 : decode cX6_init 158 = .ok (.aload_n 0, 1) := by decide +kernel
theorem dX6_init_159 : decode cX6_init 159 = .ok (.iconst 4, 1) := by decide +kernel
theorem dX6_init_160 : decode cX6_init 160 = .ok (.newarray .int, 2) := by decide +kernel
theorem dX6_init_162 : decode cX6_init 162 = .ok (.putfield 68, 3) := by decide +kernel
theorem dX6_init_165 : decode cX6_init 165 = .ok (.aload_n 0, 1) := by decide +kernel
theorem dX6_init_166 : decode cX6_init 166 = .ok (.sipush 400, 3) := by decide +kernel
theorem dX6_init_169 : decode cX6_init 169 = .ok (.newarray .int, 2) := by decide +kernel
theorem dX6_init_171 : decode cX6_init 171 = .ok (.putfield 71, 3) := by decide +kernel
theorem dX6_init_174 : decode cX6_init 174 = .ok (.aload_n 0, 1) := by decide +kernel
theorem dX6_init_175 : decode cX6_init 175 = .ok (.sipush 400, 3) := by decide +kernel
theorem dX6_init_178 : decode cX6_init 178 = .ok (.newarray .int, 2) := by decide +kernel
theorem dX6_init_180 : decode cX6_init 180 = .ok (.putfield 74, 3) := by decide +kernel
theorem dX6_init_183 : decode cX6_init 183 = .ok (.aload_n 0, 1) := by decide +kernel
theorem dX6_init_184 : decode cX6_init 184 = .ok (.sipush 1000, 3) := by decide +kernel
theorem dX6_init_187 : decode cX6_init 187 = .ok (.putfield 77, 3) := by decide +kernel
theorem dX6_init_190 : decode cX6_init 190 = .ok (.aload_n 0, 1) := by decide +kernel
theorem dX6_init_191 : decode cX6_init 191 = .ok (.getfield 68, 3) := by decide +kernel
theorem dX6_init_194 : decode cX6_init 194 = .ok (.iconst 0, 1) := by decide +kernel
theorem dX6_init_195 : decode cX6_init 195 = .ok (.iconst 3, 1) := by decide +kernel
theorem dX6_init_196 : decode cX6_init 196 = .ok (.iastore, 1) := by decide +kernel
theorem dX6_init_197 : decode cX6_init 197 = .ok (.aload_n 0, 1) := by decide +kernel
theorem dX6_init_198 : decode cX6_init 198 = .ok (.getfield 68, 3) := by decide +kernel
theorem dX6_init_201 : decode cX6_init 201 = .ok (.iconst 1, 1) := by decide +kernel
theorem dX6_init_202 : decode cX6_init 202 = .ok (.iconst 2, 1) := by decide +kernel
theorem dX6_init_203 : decode cX6_init 203 = .ok (.iastore, 1) := by decide +kernel
theorem dX6_init_204 : decode cX6_init 204 = .ok (.aload_n 0, 1) := by decide +kernel
theorem dX6_init_205 : decode cX6_init 205 = .ok (.getfield 68, 3) := by decide +kernel
theorem dX6_init_208 : decode cX6_init 208 = .ok (.iconst 2, 1) := by decide +kernel
theorem dX6_init_209 : decode cX6_init 209 = .ok (.iconst 2, 1) := by decide +kernel
theorem dX6_init_210 : decode cX6_init 210 = .ok (.iastore, 1) := by decide +kernel
theorem dX6_init_211 : decode cX6_init 211 = .ok (.aload_n 0, 1) := by decide +kernel
theorem dX6_init_212 : decode cX6_init 212 = .ok (.getfield 68, 3) := by decide +kernel
theorem dX6_init_215 : decode cX6_init 215 = .ok (.iconst 3, 1) := by decide +kernel
theorem dX6_init_216 : decode cX6_init 216 = .ok (.bipush 6, 2) := by decide +kernel
theorem dX6_init_218 : decode cX6_init 218 = .ok (.iastore, 1) := by decide +kernel
theorem dX6_init_219 : decode cX6_init 219 = .ok (.return_, 1) := by decide +kernel
theorem dX6_thrown_0 : decode cX6_thrown 0 = .ok (.aload_n 0, 1) := by decide +kernel
theorem dX6_thrown_1 : decode cX6_thrown 1 = .ok (.getfield 80, 3) := by decide +kernel
theorem dX6_thrown_4 : decode cX6_thrown 4 = .ok (.ireturn, 1) := by decide +kernel
theorem dX6_fail_0 : decode cX6_fail 0 = .ok (.aload_n 0, 1) := by decide +kernel
theorem dX6_fail_1 : decode cX6_fail 1 = .ok (.iconst 1, 1) := by decide +kernel
theorem dX6_fail_2 : decode cX6_fail 2 = .ok (.putfield 80, 3) := by decide +kernel
theorem dX6_fail_5 : decode cX6_fail 5 = .ok (.iconst 0, 1) := by decide +kernel
theorem dX6_fail_6 : decode cX6_fail 6 = .ok (.ireturn, 1) := by decide +kernel
theorem dX6_feed_0 : decode cX6_feed 0 = .ok (.aload_n 0, 1) := by decide +kernel
theorem dX6_feed_1 : decode cX6_feed 1 = .ok (.iconst 0, 1) := by decide +kernel
theorem dX6_feed_2 : decode cX6_feed 2 = .ok (.putfield 80, 3) := by decide +kernel
theorem dX6_feed_5 : decode cX6_feed 5 = .ok (.aload_n 0, 1) := by decide +kernel
theorem dX6_feed_6 : decode cX6_feed 6 = .ok (.getfield 83, 3) := by decide +kernel
theorem dX6_feed_9 : decode cX6_feed 9 = .ok (.bipush 20, 2) := by decide +kernel
theorem dX6_feed_11 : decode cX6_feed 11 = .ok (.iadd, 1) := by decide +kernel
theorem dX6_feed_12 : decode cX6_feed 12 = .ok (.sipush 2400, 3) := by decide +kernel
theorem dX6_feed_15 : decode cX6_feed 15 = .ok (.if_icmp .le 5, 3) := by decide +kernel
theorem dX6_feed_18 : decode cX6_feed 18 = .ok (.iconst (-1), 1) := by decide +kernel
theorem dX6_feed_19 : decode cX6_feed 19 = .ok (.ireturn, 1) := by decide +kernel
theorem dX6_feed_20 : decode cX6_feed 20 = .ok (.iconst 0, 1) := by decide +kernel
theorem dX6_feed_21 : decode cX6_feed 21 = .ok (.istore 6, 2) := by decide +kernel
theorem dX6_feed_23 : decode cX6_feed 23 = .ok (.iload 6, 2) := by decide +kernel
theorem dX6_feed_25 : decode cX6_feed 25 = .ok (.bipush 20, 2) := by decide +kernel
theorem dX6_feed_27 : decode cX6_feed 27 = .ok (.if_icmp .ge 93, 3) := by decide +kernel
theorem dX6_feed_30 : decode cX6_feed 30 = .ok (.iload 6, 2) := by decide +kernel
theorem dX6_feed_32 : decode cX6_feed 32 = .ok (.iconst 4, 1) := by decide +kernel
theorem dX6_feed_33 : decode cX6_feed 33 = .ok (.if_icmp .ge 7, 3) := by decide +kernel
theorem dX6_feed_36 : decode cX6_feed 36 = .ok (.iload_n 1, 1) := by decide +kernel
theorem dX6_feed_37 : decode cX6_feed 37 = .ok (.goto 39, 3) := by decide +kernel
theorem dX6_feed_40 : decode cX6_feed 40 = .ok (.iload 6, 2) := by decide +kernel
theorem dX6_feed_42 : decode cX6_feed 42 = .ok (.bipush 8, 2) := by decide +kernel
theorem dX6_feed_44 : decode cX6_feed 44 = .ok (.if_icmp .ge 7, 3) := by decide +kernel
theorem dX6_feed_47 : decode cX6_feed 47 = .ok (.iload_n 2, 1) := by decide +kernel
theorem dX6_feed_48 : decode cX6_feed 48 = .ok (.goto 28, 3) := by decide +kernel
theorem dX6_feed_51 : decode cX6_feed 51 = .ok (.iload 6, 2) := by decide +kernel
theorem dX6_feed_53 : decode cX6_feed 53 = .ok (.bipush 12, 2) := by decide +kernel
theorem dX6_feed_55 : decode cX6_feed 55 = .ok (.if_icmp .ge 7, 3) := by decide +kernel
theorem dX6_feed_58 : decode cX6_feed 58 = .ok (.iload_n 3, 1) := by decide +kernel
theorem dX6_feed_59 : decode cX6_feed 59 = .ok (.goto 17, 3) := by decide +kernel
theorem dX6_feed_62 : decode cX6_feed 62 = .ok (.iload 6, 2) := by decide +kernel
theorem dX6_feed_64 : decode cX6_feed 64 = .ok (.bipush 16, 2) := by decide +kernel
theorem dX6_feed_66 : decode cX6_feed 66 = .ok (.if_icmp .ge 8, 3) := by decide +kernel
theorem dX6_feed_69 : decode cX6_feed 69 = .ok (.iload 4, 2) := by decide +kernel
theorem dX6_feed_71 : decode cX6_feed 71 = .ok (.goto 5, 3) := by decide +kernel
theorem dX6_feed_74 : decode cX6_feed 74 = .ok (.iload 5, 2) := by decide +kernel
theorem dX6_feed_76 : decode cX6_feed 76 = .ok (.istore 7, 2) := by decide +kernel
theorem dX6_feed_78 : decode cX6_feed 78 = .ok (.aload_n 0, 1) := by decide +kernel
theorem dX6_feed_79 : decode cX6_feed 79 = .ok (.getfield 9, 3) := by decide +kernel
theorem dX6_feed_82 : decode cX6_feed 82 = .ok (.aload_n 0, 1) := by decide +kernel
theorem dX6_feed_83 : decode cX6_feed 83 = .ok (.getfield 83, 3) := by decide +kernel
theorem dX6_feed_86 : decode cX6_feed 86 = .ok (.iload 7, 2) := by decide +kernel
theorem dX6_feed_88 : decode cX6_feed 88 = .ok (.bipush 24, 2) := by decide +kernel
theorem dX6_feed_90 : decode cX6_feed 90 = .ok (.bipush 8, 2) := by decide +kernel
theorem dX6_feed_92 : decode cX6_feed 92 = .ok (.iload 6, 2) := by decide +kernel
theorem dX6_feed_94 : decode cX6_feed 94 = .ok (.iconst 4, 1) := by decide +kernel
theorem dX6_feed_95 : decode cX6_feed 95 = .ok (.irem, 1) := by decide +kernel
theorem dX6_feed_96 : decode cX6_feed 96 = .ok (.imul, 1) := by decide +kernel
theorem dX6_feed_97 : decode cX6_feed 97 = .ok (.isub, 1) := by decide +kernel
theorem dX6_feed_98 : decode cX6_feed 98 = .ok (.ishr, 1) := by decide +kernel
theorem dX6_feed_99 : decode cX6_feed 99 = .ok (.sipush 255, 3) := by decide +kernel
theorem dX6_feed_102 : decode cX6_feed 102 = .ok (.iand, 1) := by decide +kernel
theorem dX6_feed_103 : decode cX6_feed 103 = .ok (.iastore, 1) := by decide +kernel
theorem dX6_feed_104 : decode cX6_feed 104 = .ok (.aload_n 0, 1) := by decide +kernel
theorem dX6_feed_105 : decode cX6_feed 105 = .ok (.dup, 1) := by decide +kernel
theorem dX6_feed_106 : decode cX6_feed 106 = .ok (.getfield 83, 3) := by decide +kernel
theorem dX6_feed_109 : decode cX6_feed 109 = .ok (.iconst 1, 1) := by decide +kernel
theorem dX6_feed_110 : decode cX6_feed 110 = .ok (.iadd, 1) := by decide +kernel
theorem dX6_feed_111 : decode cX6_feed 111 = .ok (.putfield 83, 3) := by decide +kernel
theorem dX6_feed_114 : decode cX6_feed 114 = .ok (.iinc 6 1, 3) := by decide +kernel
theorem dX6_feed_117 : decode cX6_feed 117 = .ok (.goto (-94), 3) := by decide +kernel
theorem dX6_feed_120 : decode cX6_feed 120 = .ok (.aload_n 0, 1) := by decide +kernel
theorem dX6_feed_121 : decode cX6_feed 121 = .ok (.getfield 83, 3) := by decide +kernel
theorem dX6_feed_124 : decode cX6_feed 124 = .ok (.ireturn, 1) := by decide +kernel
theorem dX6_byteAt_0 : decode cX6_byteAt 0 = .ok (.iload_n 1, 1) := by decide +kernel
theorem dX6_byteAt_1 : decode cX6_byteAt 1 = .ok (.aload_n 0, 1) := by decide +kernel
theorem dX6_byteAt_2 : decode cX6_byteAt 2 = .ok (.getfield 86, 3) := by decide +kernel
theorem dX6_byteAt_5 : decode cX6_byteAt 5 = .ok (.if_icmp .ge 12, 3) := by decide +kernel
theorem dX6_byteAt_8 : decode cX6_byteAt 8 = .ok (.aload_n 0, 1) := by decide +kernel
theorem dX6_byteAt_9 : decode cX6_byteAt 9 = .ok (.getfield 9, 3) := by decide +kernel
theorem dX6_byteAt_12 : decode cX6_byteAt 12 = .ok (.iload_n 1, 1) := by decide +kernel
theorem dX6_byteAt_13 : decode cX6_byteAt 13 = .ok (.iaload, 1) := by decide +kernel
theorem dX6_byteAt_14 : decode cX6_byteAt 14 = .ok (.goto 4, 3) := by decide +kernel
theorem dX6_byteAt_17 : decode cX6_byteAt 17 = .ok (.iconst (-1), 1) := by decide +kernel
theorem dX6_byteAt_18 : decode cX6_byteAt 18 = .ok (.ireturn, 1) := by decide +kernel
theorem dX6_isDigit_0 : decode cX6_isDigit 0 = .ok (.iload_n 0, 1) := by decide +kernel
theorem dX6_isDigit_1 : decode cX6_isDigit 1 = .ok (.bipush 48, 2) := by decide +kernel
theorem dX6_isDigit_3 : decode cX6_isDigit 3 = .ok (.if_icmp .lt 13, 3) := by decide +kernel
theorem dX6_isDigit_6 : decode cX6_isDigit 6 = .ok (.iload_n 0, 1) := by decide +kernel
theorem dX6_isDigit_7 : decode cX6_isDigit 7 = .ok (.bipush 57, 2) := by decide +kernel
theorem dX6_isDigit_9 : decode cX6_isDigit 9 = .ok (.if_icmp .gt 7, 3) := by decide +kernel
theorem dX6_isDigit_12 : decode cX6_isDigit 12 = .ok (.iconst 1, 1) := by decide +kernel
theorem dX6_isDigit_13 : decode cX6_isDigit 13 = .ok (.goto 4, 3) := by decide +kernel
theorem dX6_isDigit_16 : decode cX6_isDigit 16 = .ok (.iconst 0, 1) := by decide +kernel
theorem dX6_isDigit_17 : decode cX6_isDigit 17 = .ok (.ireturn, 1) := by decide +kernel
theorem dX6_baseOf_0 : decode cX6_baseOf 0 = .ok (.iload_n 0, 1) := by decide +kernel
theorem dX6_baseOf_1 : decode cX6_baseOf 1 = .ok (.tableswitch 57 97 103 #[54, 57, 43, 45, 47, 49, 51], 43) := by decide +kernel
theorem dX6_baseOf_44 : decode cX6_baseOf 44 = .ok (.iconst 0, 1) := by decide +kernel
theorem dX6_baseOf_45 : decode cX6_baseOf 45 = .ok (.ireturn, 1) := by decide +kernel
theorem dX6_baseOf_46 : decode cX6_baseOf 46 = .ok (.iconst 2, 1) := by decide +kernel
theorem dX6_baseOf_47 : decode cX6_baseOf 47 = .ok (.ireturn, 1) := by decide +kernel
theorem dX6_baseOf_48 : decode cX6_baseOf 48 = .ok (.iconst 4, 1) := by decide +kernel
theorem dX6_baseOf_49 : decode cX6_baseOf 49 = .ok (.ireturn, 1) := by decide +kernel
theorem dX6_baseOf_50 : decode cX6_baseOf 50 = .ok (.iconst 5, 1) := by decide +kernel
theorem dX6_baseOf_51 : decode cX6_baseOf 51 = .ok (.ireturn, 1) := by decide +kernel
theorem dX6_baseOf_52 : decode cX6_baseOf 52 = .ok (.bipush 7, 2) := by decide +kernel
theorem dX6_baseOf_54 : decode cX6_baseOf 54 = .ok (.ireturn, 1) := by decide +kernel
theorem dX6_baseOf_55 : decode cX6_baseOf 55 = .ok (.bipush 9, 2) := by decide +kernel
theorem dX6_baseOf_57 : decode cX6_baseOf 57 = .ok (.ireturn, 1) := by decide +kernel
theorem dX6_baseOf_58 : decode cX6_baseOf 58 = .ok (.bipush 11, 2) := by decide +kernel
theorem dX6_baseOf_60 : decode cX6_baseOf 60 = .ok (.ireturn, 1) := by decide +kernel
set_option maxRecDepth 20000 in
theorem ggX6_next_X6_byteAt : GoodIn wsX6_next wsX6_byteAt := goodIn_r _ [15, 16, 17, 24, 25, 26, 27, 28, 29, 30, 31, 32, 33, 34, 35, 36, 37, 38, 39, 40, 41, 42, 43, 44, 45, 46, 47, 48, 49, 50, 51, 52, 53, 54, 55, 56, 57, 58, 59, 60, 61, 62, 63, 64, 65, 66, 67, 68] rfl (by decide +kernel)
set_option maxRecDepth 20000 in
theorem gX6_next_X6_byteAt : GoodIn wsX6_next (wsV RX6 92 RX6 yX6_byteAt wsX6_byteAt) := goodIn_app (goodIn_of _ (by decide +kernel)) ggX6_next_X6_byteAt
set_option maxRecDepth 20000 in
theorem ggX6_next_X6_isDigit : GoodIn wsX6_next wsX6_isDigit := goodIn_r _ [20] rfl (by decide +kernel)
set_option maxRecDepth 20000 in
theorem gX6_next_X6_isDigit : GoodIn wsX6_next (va_wsS RX6 105 yX6_isDigit wsX6_isDigit) := goodIn_app (goodIn_of _ (by decide +kernel)) ggX6_next_X6_isDigit
set_option maxRecDepth 20000 in
theorem ggX6_next_X6_baseOf : GoodIn wsX6_next wsX6_baseOf := goodIn_r _ [23] rfl (by decide +kernel)
set_option maxRecDepth 20000 in
theorem gX6_next_X6_baseOf : GoodIn wsX6_next (va_wsS RX6 118 yX6_baseOf wsX6_baseOf) := goodIn_app (goodIn_of _ (by decide +kernel)) ggX6_next_X6_baseOf
theorem dX6_next_0 : decode cX6_next 0 = .ok (.aload_n 0, 1) := by decide +kernel
theorem dX6_next_1 : decode cX6_next 1 = .ok (.aload_n 0, 1) := by decide +kernel
theorem dX6_next_2 : decode cX6_next 2 = .ok (.getfield 89, 3) := by decide +kernel
theorem dX6_next_5 : decode cX6_next 5 = .ok (.invokevirtual 92, 3) := by decide +kernel
theorem dX6_next_8 : decode cX6_next 8 = .ok (.bipush 32, 2) := by decide +kernel
theorem dX6_next_10 : decode cX6_next 10 = .ok (.if_icmp .eq 16, 3) := by decide +kernel
theorem dX6_next_13 : decode cX6_next 13 = .ok (.aload_n 0, 1) := by decide +kernel
theorem dX6_next_14 : decode cX6_next 14 = .ok (.aload_n 0, 1) := by decide +kernel
theorem dX6_next_15 : decode cX6_next 15 = .ok (.getfield 89, 3) := by decide +kernel
theorem dX6_next_18 : decode cX6_next 18 = .ok (.invokevirtual 92, 3) := by decide +kernel
theorem dX6_next_21 : decode cX6_next 21 = .ok (.bipush 10, 2) := by decide +kernel
theorem dX6_next_23 : decode cX6_next 23 = .ok (.if_icmp .ne 16, 3) := by decide +kernel
theorem dX6_next_26 : decode cX6_next 26 = .ok (.aload_n 0, 1) := by decide +kernel
theorem dX6_next_27 : decode cX6_next 27 = .ok (.dup, 1) := by decide +kernel
theorem dX6_next_28 : decode cX6_next 28 = .ok (.getfield 89, 3) := by decide +kernel
theorem dX6_next_31 : decode cX6_next 31 = .ok (.iconst 1, 1) := by decide +kernel
theorem dX6_next_32 : decode cX6_next 32 = .ok (.iadd, 1) := by decide +kernel
theorem dX6_next_33 : decode cX6_next 33 = .ok (.putfield 89, 3) := by decide +kernel
theorem dX6_next_36 : decode cX6_next 36 = .ok (.goto (-36), 3) := by decide +kernel
theorem dX6_next_39 : decode cX6_next 39 = .ok (.aload_n 0, 1) := by decide +kernel
theorem dX6_next_40 : decode cX6_next 40 = .ok (.aload_n 0, 1) := by decide +kernel
theorem dX6_next_41 : decode cX6_next 41 = .ok (.getfield 89, 3) := by decide +kernel
theorem dX6_next_44 : decode cX6_next 44 = .ok (.putfield 96, 3) := by decide +kernel
theorem dX6_next_47 : decode cX6_next 47 = .ok (.aload_n 0, 1) := by decide +kernel
theorem dX6_next_48 : decode cX6_next 48 = .ok (.iconst 0, 1) := by decide +kernel
theorem dX6_next_49 : decode cX6_next 49 = .ok (.putfield 99, 3) := by decide +kernel
theorem dX6_next_52 : decode cX6_next 52 = .ok (.aload_n 0, 1) := by decide +kernel
theorem dX6_next_53 : decode cX6_next 53 = .ok (.aload_n 0, 1) := by decide +kernel
theorem dX6_next_54 : decode cX6_next 54 = .ok (.getfield 89, 3) := by decide +kernel
theorem dX6_next_57 : decode cX6_next 57 = .ok (.invokevirtual 92, 3) := by decide +kernel
theorem dX6_next_60 : decode cX6_next 60 = .ok (.istore_n 1, 1) := by decide +kernel
theorem dX6_next_61 : decode cX6_next 61 = .ok (.iload_n 1, 1) := by decide +kernel
theorem dX6_next_62 : decode cX6_next 62 = .ok (.iconst (-1), 1) := by decide +kernel
theorem dX6_next_63 : decode cX6_next 63 = .ok (.if_icmp .ne 11, 3) := by decide +kernel
theorem dX6_next_66 : decode cX6_next 66 = .ok (.aload_n 0, 1) := by decide +kernel
theorem dX6_next_67 : decode cX6_next 67 = .ok (.iconst 0, 1) := by decide +kernel
theorem dX6_next_68 : decode cX6_next 68 = .ok (.putfield 102, 3) := by decide +kernel
theorem dX6_next_71 : decode cX6_next 71 = .ok (.goto 391, 3) := by decide +kernel
theorem dX6_next_74 : decode cX6_next 74 = .ok (.iload_n 1, 1) := by decide +kernel
theorem dX6_next_75 : decode cX6_next 75 = .ok (.invokestatic 105, 3) := by decide +kernel
theorem dX6_next_78 : decode cX6_next 78 = .ok (.ifCond .eq 69, 3) := by decide +kernel
theorem dX6_next_81 : decode cX6_next 81 = .ok (.aload_n 0, 1) := by decide +kernel
theorem dX6_next_82 : decode cX6_next 82 = .ok (.iconst 2, 1) := by decide +kernel
theorem dX6_next_83 : decode cX6_next 83 = .ok (.putfield 102, 3) := by decide +kernel
theorem dX6_next_86 : decode cX6_next 86 = .ok (.aload_n 0, 1) := by decide +kernel
theorem dX6_next_87 : decode cX6_next 87 = .ok (.iconst 0, 1) := by decide +kernel
theorem dX6_next_88 : decode cX6_next 88 = .ok (.putfield 109, 3) := by decide +kernel
theorem dX6_next_91 : decode cX6_next 91 = .ok (.aload_n 0, 1) := by decide +kernel
theorem dX6_next_92 : decode cX6_next 92 = .ok (.aload_n 0, 1) := by decide +kernel
theorem dX6_next_93 : decode cX6_next 93 = .ok (.getfield 89, 3) := by decide +kernel
theorem dX6_next_96 : decode cX6_next 96 = .ok (.invokevirtual 92, 3) := by decide +kernel
theorem dX6_next_99 : decode cX6_next 99 = .ok (.invokestatic 105, 3) := by decide +kernel
theorem dX6_next_102 : decode cX6_next 102 = .ok (.ifCond .eq 360, 3) := by decide +kernel
theorem dX6_next_105 : decode cX6_next 105 = .ok (.aload_n 0, 1) := by decide +kernel
theorem dX6_next_106 : decode cX6_next 106 = .ok (.sipush 10000, 3) := by decide +kernel
theorem dX6_next_109 : decode cX6_next 109 = .ok (.bipush 10, 2) := by decide +kernel
theorem dX6_next_111 : decode cX6_next 111 = .ok (.aload_n 0, 1) := by decide +kernel
theorem dX6_next_112 : decode cX6_next 112 = .ok (.getfield 109, 3) := by decide +kernel
theorem dX6_next_115 : decode cX6_next 115 = .ok (.imul, 1) := by decide +kernel
theorem dX6_next_116 : decode cX6_next 116 = .ok (.aload_n 0, 1) := by decide +kernel
theorem dX6_next_117 : decode cX6_next 117 = .ok (.aload_n 0, 1) := by decide +kernel
theorem dX6_next_118 : decode cX6_next 118 = .ok (.getfield 89, 3) := by decide +kernel
theorem dX6_next_121 : decode cX6_next 121 = .ok (.invokevirtual 92, 3) := by decide +kernel
theorem dX6_next_124 : decode cX6_next 124 = .ok (.iadd, 1) := by decide +kernel
theorem dX6_next_125 : decode cX6_next 125 = .ok (.bipush 48, 2) := by decide +kernel
theorem dX6_next_127 : decode cX6_next 127 = .ok (.isub, 1) := by decide +kernel
theorem dX6_next_128 : decode cX6_next 128 = .ok (.invokestatic 112, 3) := by decide +kernel
theorem dX6_next_131 : decode cX6_next 131 = .ok (.putfield 109, 3) := by decide +kernel
theorem dX6_next_134 : decode cX6_next 134 = .ok (.aload_n 0, 1) := by decide +kernel
theorem dX6_next_135 : decode cX6_next 135 = .ok (.dup, 1) := by decide +kernel
theorem dX6_next_136 : decode cX6_next 136 = .ok (.getfield 89, 3) := by decide +kernel
theorem dX6_next_139 : decode cX6_next 139 = .ok (.iconst 1, 1) := by decide +kernel
theorem dX6_next_140 : decode cX6_next 140 = .ok (.iadd, 1) := by decide +kernel
theorem dX6_next_141 : decode cX6_next 141 = .ok (.putfield 89, 3) := by decide +kernel
theorem dX6_next_144 : decode cX6_next 144 = .ok (.goto (-53), 3) := by decide +kernel
theorem dX6_next_147 : decode cX6_next 147 = .ok (.iload_n 1, 1) := by decide +kernel
theorem dX6_next_148 : decode cX6_next 148 = .ok (.bipush 97, 2) := by decide +kernel
theorem dX6_next_150 : decode cX6_next 150 = .ok (.if_icmp .lt 149, 3) := by decide +kernel
theorem dX6_next_153 : decode cX6_next 153 = .ok (.iload_n 1, 1) := by decide +kernel
theorem dX6_next_154 : decode cX6_next 154 = .ok (.bipush 103, 2) := by decide +kernel
theorem dX6_next_156 : decode cX6_next 156 = .ok (.if_icmp .gt 143, 3) := by decide +kernel
theorem dX6_next_159 : decode cX6_next 159 = .ok (.aload_n 0, 1) := by decide +kernel
theorem dX6_next_160 : decode cX6_next 160 = .ok (.getfield 89, 3) := by decide +kernel
theorem dX6_next_163 : decode cX6_next 163 = .ok (.iconst 1, 1) := by decide +kernel
theorem dX6_next_164 : decode cX6_next 164 = .ok (.iadd, 1) := by decide +kernel
theorem dX6_next_165 : decode cX6_next 165 = .ok (.istore_n 2, 1) := by decide +kernel
theorem dX6_next_166 : decode cX6_next 166 = .ok (.iconst 0, 1) := by decide +kernel
theorem dX6_next_167 : decode cX6_next 167 = .ok (.istore_n 3, 1) := by decide +kernel
theorem dX6_next_168 : decode cX6_next 168 = .ok (.aload_n 0, 1) := by decide +kernel
theorem dX6_next_169 : decode cX6_next 169 = .ok (.iload_n 2, 1) := by decide +kernel
theorem dX6_next_170 : decode cX6_next 170 = .ok (.invokevirtual 92, 3) := by decide +kernel
theorem dX6_next_173 : decode cX6_next 173 = .ok (.bipush 43, 2) := by decide +kernel
theorem dX6_next_175 : decode cX6_next 175 = .ok (.if_icmp .eq 13, 3) := by decide +kernel
theorem dX6_next_178 : decode cX6_next 178 = .ok (.aload_n 0, 1) := by decide +kernel
theorem dX6_next_179 : decode cX6_next 179 = .ok (.iload_n 2, 1) := by decide +kernel
theorem dX6_next_180 : decode cX6_next 180 = .ok (.invokevirtual 92, 3) := by decide +kernel
theorem dX6_next_183 : decode cX6_next 183 = .ok (.bipush 45, 2) := by decide +kernel
theorem dX6_next_185 : decode cX6_next 185 = .ok (.if_icmp .ne 22, 3) := by decide +kernel
theorem dX6_next_188 : decode cX6_next 188 = .ok (.aload_n 0, 1) := by decide +kernel
theorem dX6_next_189 : decode cX6_next 189 = .ok (.iload_n 2, 1) := by decide +kernel
theorem dX6_next_190 : decode cX6_next 190 = .ok (.invokevirtual 92, 3) := by decide +kernel
theorem dX6_next_193 : decode cX6_next 193 = .ok (.bipush 43, 2) := by decide +kernel
theorem dX6_next_195 : decode cX6_next 195 = .ok (.if_icmp .ne 7, 3) := by decide +kernel
theorem dX6_next_198 : decode cX6_next 198 = .ok (.iconst 1, 1) := by decide +kernel
theorem dX6_next_199 : decode cX6_next 199 = .ok (.goto 4, 3) := by decide +kernel
theorem dX6_next_202 : decode cX6_next 202 = .ok (.iconst (-1), 1) := by decide +kernel
theorem dX6_next_203 : decode cX6_next 203 = .ok (.istore_n 3, 1) := by decide +kernel
theorem dX6_next_204 : decode cX6_next 204 = .ok (.iinc 2 1, 3) := by decide +kernel
theorem dX6_next_207 : decode cX6_next 207 = .ok (.aload_n 0, 1) := by decide +kernel
theorem dX6_next_208 : decode cX6_next 208 = .ok (.iload_n 2, 1) := by decide +kernel
theorem dX6_next_209 : decode cX6_next 209 = .ok (.invokevirtual 92, 3) := by decide +kernel
theorem dX6_next_212 : decode cX6_next 212 = .ok (.bipush 48, 2) := by decide +kernel
theorem dX6_next_214 : decode cX6_next 214 = .ok (.if_icmp .lt 17, 3) := by decide +kernel
theorem dX6_next_217 : decode cX6_next 217 = .ok (.aload_n 0, 1) := by decide +kernel
theorem dX6_next_218 : decode cX6_next 218 = .ok (.iload_n 2, 1) := by decide +kernel
theorem dX6_next_219 : decode cX6_next 219 = .ok (.invokevirtual 92, 3) := by decide +kernel
theorem dX6_next_222 : decode cX6_next 222 = .ok (.bipush 56, 2) := by decide +kernel
theorem dX6_next_224 : decode cX6_next 224 = .ok (.if_icmp .gt 7, 3) := by decide +kernel
theorem dX6_next_227 : decode cX6_next 227 = .ok (.iconst 1, 1) := by decide +kernel
theorem dX6_next_228 : decode cX6_next 228 = .ok (.goto 4, 3) := by decide +kernel
theorem dX6_next_231 : decode cX6_next 231 = .ok (.iconst 0, 1) := by decide +kernel
theorem dX6_next_232 : decode cX6_next 232 = .ok (.istore 4, 2) := by decide +kernel
theorem dX6_next_234 : decode cX6_next 234 = .ok (.aload_n 0, 1) := by decide +kernel
theorem dX6_next_235 : decode cX6_next 235 = .ok (.iload 4, 2) := by decide +kernel
theorem dX6_next_237 : decode cX6_next 237 = .ok (.ifCond .eq 7, 3) := by decide +kernel
theorem dX6_next_240 : decode cX6_next 240 = .ok (.iconst 1, 1) := by decide +kernel
theorem dX6_next_241 : decode cX6_next 241 = .ok (.goto 4, 3) := by decide +kernel
theorem dX6_next_244 : decode cX6_next 244 = .ok (.iconst 4, 1) := by decide +kernel
theorem dX6_next_245 : decode cX6_next 245 = .ok (.putfield 102, 3) := by decide +kernel
theorem dX6_next_248 : decode cX6_next 248 = .ok (.iload 4, 2) := by decide +kernel
theorem dX6_next_250 : decode cX6_next 250 = .ok (.ifCond .eq 25, 3) := by decide +kernel
theorem dX6_next_253 : decode cX6_next 253 = .ok (.aload_n 0, 1) := by decide +kernel
theorem dX6_next_254 : decode cX6_next 254 = .ok (.bipush 12, 2) := by decide +kernel
theorem dX6_next_256 : decode cX6_next 256 = .ok (.aload_n 0, 1) := by decide +kernel
theorem dX6_next_257 : decode cX6_next 257 = .ok (.iload_n 2, 1) := by decide +kernel
theorem dX6_next_258 : decode cX6_next 258 = .ok (.invokevirtual 92, 3) := by decide +kernel
theorem dX6_next_261 : decode cX6_next 261 = .ok (.bipush 48, 2) := by decide +kernel
theorem dX6_next_263 : decode cX6_next 263 = .ok (.isub, 1) := by decide +kernel
theorem dX6_next_264 : decode cX6_next 264 = .ok (.imul, 1) := by decide +kernel
theorem dX6_next_265 : decode cX6_next 265 = .ok (.iload_n 1, 1) := by decide +kernel
theorem dX6_next_266 : decode cX6_next 266 = .ok (.invokestatic 118, 3) := by decide +kernel
theorem dX6_next_269 : decode cX6_next 269 = .ok (.iadd, 1) := by decide +kernel
theorem dX6_next_270 : decode cX6_next 270 = .ok (.iload_n 3, 1) := by decide +kernel
theorem dX6_next_271 : decode cX6_next 271 = .ok (.iadd, 1) := by decide +kernel
theorem dX6_next_272 : decode cX6_next 272 = .ok (.putfield 109, 3) := by decide +kernel
theorem dX6_next_275 : decode cX6_next 275 = .ok (.aload_n 0, 1) := by decide +kernel
theorem dX6_next_276 : decode cX6_next 276 = .ok (.iload 4, 2) := by decide +kernel
theorem dX6_next_278 : decode cX6_next 278 = .ok (.ifCond .eq 9, 3) := by decide +kernel
theorem dX6_next_281 : decode cX6_next 281 = .ok (.iload_n 2, 1) := by decide +kernel
theorem dX6_next_282 : decode cX6_next 282 = .ok (.iconst 1, 1) := by decide +kernel
theorem dX6_next_283 : decode cX6_next 283 = .ok (.iadd, 1) := by decide +kernel
theorem dX6_next_284 : decode cX6_next 284 = .ok (.goto 9, 3) := by decide +kernel
theorem dX6_next_287 : decode cX6_next 287 = .ok (.aload_n 0, 1) := by decide +kernel
theorem dX6_next_288 : decode cX6_next 288 = .ok (.getfield 89, 3) := by decide +kernel
theorem dX6_next_291 : decode cX6_next 291 = .ok (.iconst 1, 1) := by decide +kernel
theorem dX6_next_292 : decode cX6_next 292 = .ok (.iadd, 1) := by decide +kernel
theorem dX6_next_293 : decode cX6_next 293 = .ok (.putfield 89, 3) := by decide +kernel
theorem dX6_next_296 : decode cX6_next 296 = .ok (.goto 166, 3) := by decide +kernel
theorem dX6_next_299 : decode cX6_next 299 = .ok (.aload_n 0, 1) := by decide +kernel
theorem dX6_next_300 : decode cX6_next 300 = .ok (.dup, 1) := by decide +kernel
theorem dX6_next_301 : decode cX6_next 301 = .ok (.getfield 89, 3) := by decide +kernel
theorem dX6_next_304 : decode cX6_next 304 = .ok (.iconst 1, 1) := by decide +kernel
theorem dX6_next_305 : decode cX6_next 305 = .ok (.iadd, 1) := by decide +kernel
theorem dX6_next_306 : decode cX6_next 306 = .ok (.putfield 89, 3) := by decide +kernel
theorem dX6_next_309 : decode cX6_next 309 = .ok (.iload_n 1, 1) := by decide +kernel
theorem dX6_next_310 : decode cX6_next 310 = .ok (.bipush 40, 2) := by decide +kernel
theorem dX6_next_312 : decode cX6_next 312 = .ok (.if_icmp .eq 51, 3) := by decide +kernel
theorem dX6_next_315 : decode cX6_next 315 = .ok (.iload_n 1, 1) := by decide +kernel
theorem dX6_next_316 : decode cX6_next 316 = .ok (.bipush 41, 2) := by decide +kernel
theorem dX6_next_318 : decode cX6_next 318 = .ok (.if_icmp .eq 45, 3) := by decide +kernel
theorem dX6_next_321 : decode cX6_next 321 = .ok (.iload_n 1, 1) := by decide +kernel
theorem dX6_next_322 : decode cX6_next 322 = .ok (.bipush 58, 2) := by decide +kernel
theorem dX6_next_324 : decode cX6_next 324 = .ok (.if_icmp .eq 39, 3) := by decide +kernel
theorem dX6_next_327 : decode cX6_next 327 = .ok (.iload_n 1, 1) := by decide +kernel
theorem dX6_next_328 : decode cX6_next 328 = .ok (.bipush 126, 2) := by decide +kernel
theorem dX6_next_330 : decode cX6_next 330 = .ok (.if_icmp .eq 33, 3) := by decide +kernel
theorem dX6_next_333 : decode cX6_next 333 = .ok (.iload_n 1, 1) := by decide +kernel
theorem dX6_next_334 : decode cX6_next 334 = .ok (.bipush 114, 2) := by decide +kernel
theorem dX6_next_336 : decode cX6_next 336 = .ok (.if_icmp .eq 27, 3) := by decide +kernel
theorem dX6_next_339 : decode cX6_next 339 = .ok (.iload_n 1, 1) := by decide +kernel
theorem dX6_next_340 : decode cX6_next 340 = .ok (.bipush 64, 2) := by decide +kernel
theorem dX6_next_342 : decode cX6_next 342 = .ok (.if_icmp .eq 21, 3) := by decide +kernel
theorem dX6_next_345 : decode cX6_next 345 = .ok (.iload_n 1, 1) := by decide +kernel
theorem dX6_next_346 : decode cX6_next 346 = .ok (.bipush 33, 2) := by decide +kernel
theorem dX6_next_348 : decode cX6_next 348 = .ok (.if_icmp .eq 15, 3) := by decide +kernel
theorem dX6_next_351 : decode cX6_next 351 = .ok (.iload_n 1, 1) := by decide +kernel
theorem dX6_next_352 : decode cX6_next 352 = .ok (.bipush 37, 2) := by decide +kernel
theorem dX6_next_354 : decode cX6_next 354 = .ok (.if_icmp .eq 9, 3) := by decide +kernel
theorem dX6_next_357 : decode cX6_next 357 = .ok (.iload_n 1, 1) := by decide +kernel
theorem dX6_next_358 : decode cX6_next 358 = .ok (.bipush 124, 2) := by decide +kernel
theorem dX6_next_360 : decode cX6_next 360 = .ok (.if_icmp .ne 7, 3) := by decide +kernel
theorem dX6_next_363 : decode cX6_next 363 = .ok (.iconst 1, 1) := by decide +kernel
theorem dX6_next_364 : decode cX6_next 364 = .ok (.goto 4, 3) := by decide +kernel
theorem dX6_next_367 : decode cX6_next 367 = .ok (.iconst 0, 1) := by decide +kernel
theorem dX6_next_368 : decode cX6_next 368 = .ok (.istore_n 2, 1) := by decide +kernel
theorem dX6_next_369 : decode cX6_next 369 = .ok (.aload_n 0, 1) := by decide +kernel
theorem dX6_next_370 : decode cX6_next 370 = .ok (.iload_n 2, 1) := by decide +kernel
theorem dX6_next_371 : decode cX6_next 371 = .ok (.ifCond .eq 7, 3) := by decide +kernel
theorem dX6_next_374 : decode cX6_next 374 = .ok (.iconst 3, 1) := by decide +kernel
theorem dX6_next_375 : decode cX6_next 375 = .ok (.goto 4, 3) := by decide +kernel
theorem dX6_next_378 : decode cX6_next 378 = .ok (.iconst 4, 1) := by decide +kernel
theorem dX6_next_379 : decode cX6_next 379 = .ok (.putfield 102, 3) := by decide +kernel
theorem dX6_next_382 : decode cX6_next 382 = .ok (.aload_n 0, 1) := by decide +kernel
theorem dX6_next_383 : decode cX6_next 383 = .ok (.iload_n 1, 1) := by decide +kernel
theorem dX6_next_384 : decode cX6_next 384 = .ok (.putfield 99, 3) := by decide +kernel
theorem dX6_next_387 : decode cX6_next 387 = .ok (.iload_n 1, 1) := by decide +kernel
theorem dX6_next_388 : decode cX6_next 388 = .ok (.bipush 124, 2) := by decide +kernel
theorem dX6_next_390 : decode cX6_next 390 = .ok (.if_icmp .ne 36, 3) := by decide +kernel
theorem dX6_next_393 : decode cX6_next 393 = .ok (.aload_n 0, 1) := by decide +kernel
theorem dX6_next_394 : decode cX6_next 394 = .ok (.aload_n 0, 1) := by decide +kernel
theorem dX6_next_395 : decode cX6_next 395 = .ok (.getfield 89, 3) := by decide +kernel
theorem dX6_next_398 : decode cX6_next 398 = .ok (.invokevirtual 92, 3) := by decide +kernel
theorem dX6_next_401 : decode cX6_next 401 = .ok (.bipush 58, 2) := by decide +kernel
theorem dX6_next_403 : decode cX6_next 403 = .ok (.if_icmp .ne 23, 3) := by decide +kernel
theorem dX6_next_406 : decode cX6_next 406 = .ok (.aload_n 0, 1) := by decide +kernel
theorem dX6_next_407 : decode cX6_next 407 = .ok (.sipush 256, 3) := by decide +kernel
theorem dX6_next_410 : decode cX6_next 410 = .ok (.putfield 99, 3) := by decide +kernel
theorem dX6_next_413 : decode cX6_next 413 = .ok (.aload_n 0, 1) := by decide +kernel
theorem dX6_next_414 : decode cX6_next 414 = .ok (.dup, 1) := by decide +kernel
theorem dX6_next_415 : decode cX6_next 415 = .ok (.getfield 89, 3) := by decide +kernel
theorem dX6_next_418 : decode cX6_next 418 = .ok (.iconst 1, 1) := by decide +kernel
theorem dX6_next_419 : decode cX6_next 419 = .ok (.iadd, 1) := by decide +kernel
theorem dX6_next_420 : decode cX6_next 420 = .ok (.putfield 89, 3) := by decide +kernel
theorem dX6_next_423 : decode cX6_next 423 = .ok (.goto 39, 3) := by decide +kernel
theorem dX6_next_426 : decode cX6_next 426 = .ok (.iload_n 1, 1) := by decide +kernel
theorem dX6_next_427 : decode cX6_next 427 = .ok (.bipush 58, 2) := by decide +kernel
theorem dX6_next_429 : decode cX6_next 429 = .ok (.if_icmp .ne 33, 3) := by decide +kernel
theorem dX6_next_432 : decode cX6_next 432 = .ok (.aload_n 0, 1) := by decide +kernel
theorem dX6_next_433 : decode cX6_next 433 = .ok (.aload_n 0, 1) := by decide +kernel
theorem dX6_next_434 : decode cX6_next 434 = .ok (.getfield 89, 3) := by decide +kernel
theorem dX6_next_437 : decode cX6_next 437 = .ok (.invokevirtual 92, 3) := by decide +kernel
theorem dX6_next_440 : decode cX6_next 440 = .ok (.bipush 124, 2) := by decide +kernel
theorem dX6_next_442 : decode cX6_next 442 = .ok (.if_icmp .ne 20, 3) := by decide +kernel
theorem dX6_next_445 : decode cX6_next 445 = .ok (.aload_n 0, 1) := by decide +kernel
theorem dX6_next_446 : decode cX6_next 446 = .ok (.sipush 257, 3) := by decide +kernel
theorem dX6_next_449 : decode cX6_next 449 = .ok (.putfield 99, 3) := by decide +kernel
theorem dX6_next_452 : decode cX6_next 452 = .ok (.aload_n 0, 1) := by decide +kernel
theorem dX6_next_453 : decode cX6_next 453 = .ok (.dup, 1) := by decide +kernel
theorem dX6_next_454 : decode cX6_next 454 = .ok (.getfield 89, 3) := by decide +kernel
theorem dX6_next_457 : decode cX6_next 457 = .ok (.iconst 1, 1) := by decide +kernel
theorem dX6_next_458 : decode cX6_next 458 = .ok (.iadd, 1) := by decide +kernel
theorem dX6_next_459 : decode cX6_next 459 = .ok (.putfield 89, 3) := by decide +kernel
theorem dX6_next_462 : decode cX6_next 462 = .ok (.aload_n 0, 1) := by decide +kernel
theorem dX6_next_463 : decode cX6_next 463 = .ok (.aload_n 0, 1) := by decide +kernel
theorem dX6_next_464 : decode cX6_next 464 = .ok (.getfield 89, 3) := by decide +kernel
theorem dX6_next_467 : decode cX6_next 467 = .ok (.putfield 121, 3) := by decide +kernel
theorem dX6_next_470 : decode cX6_next 470 = .ok (.return_, 1) := by decide +kernel
theorem dX6_wrong_0 : decode cX6_wrong 0 = .ok (.aload_n 0, 1) := by decide +kernel
theorem dX6_wrong_1 : decode cX6_wrong 1 = .ok (.getfield 124, 3) := by decide +kernel
theorem dX6_wrong_4 : decode cX6_wrong 4 = .ok (.ifCond .eq 4, 3) := by decide +kernel
theorem dX6_wrong_7 : decode cX6_wrong 7 = .ok (.return_, 1) := by decide +kernel
theorem dX6_wrong_8 : decode cX6_wrong 8 = .ok (.aload_n 0, 1) := by decide +kernel
theorem dX6_wrong_9 : decode cX6_wrong 9 = .ok (.iload_n 1, 1) := by decide +kernel
theorem dX6_wrong_10 : decode cX6_wrong 10 = .ok (.putfield 124, 3) := by decide +kernel
theorem dX6_wrong_13 : decode cX6_wrong 13 = .ok (.aload_n 0, 1) := by decide +kernel
theorem dX6_wrong_14 : decode cX6_wrong 14 = .ok (.aload_n 0, 1) := by decide +kernel
theorem dX6_wrong_15 : decode cX6_wrong 15 = .ok (.getfield 96, 3) := by decide +kernel
theorem dX6_wrong_18 : decode cX6_wrong 18 = .ok (.putfield 127, 3) := by decide +kernel
theorem dX6_wrong_21 : decode cX6_wrong 21 = .ok (.return_, 1) := by decide +kernel
theorem dX6_isSign_0 : decode cX6_isSign 0 = .ok (.aload_n 0, 1) := by decide +kernel
theorem dX6_isSign_1 : decode cX6_isSign 1 = .ok (.getfield 102, 3) := by decide +kernel
theorem dX6_isSign_4 : decode cX6_isSign 4 = .ok (.iconst 3, 1) := by decide +kernel
theorem dX6_isSign_5 : decode cX6_isSign 5 = .ok (.if_icmp .ne 15, 3) := by decide +kernel
theorem dX6_isSign_8 : decode cX6_isSign 8 = .ok (.aload_n 0, 1) := by decide +kernel
theorem dX6_isSign_9 : decode cX6_isSign 9 = .ok (.getfield 99, 3) := by decide +kernel
theorem dX6_isSign_12 : decode cX6_isSign 12 = .ok (.iload_n 1, 1) := by decide +kernel
theorem dX6_isSign_13 : decode cX6_isSign 13 = .ok (.if_icmp .ne 7, 3) := by decide +kernel
theorem dX6_isSign_16 : decode cX6_isSign 16 = .ok (.iconst 1, 1) := by decide +kernel
theorem dX6_isSign_17 : decode cX6_isSign 17 = .ok (.goto 4, 3) := by decide +kernel
theorem dX6_isSign_20 : decode cX6_isSign 20 = .ok (.iconst 0, 1) := by decide +kernel
theorem dX6_isSign_21 : decode cX6_isSign 21 = .ok (.ireturn, 1) := by decide +kernel
set_option maxRecDepth 20000 in
theorem ggX6_need_X6_isSign : GoodIn wsX6_need wsX6_isSign := goodIn_r _ [6, 7, 8, 38, 39, 40, 41, 42, 43, 44, 45, 46, 47, 48, 49, 50, 51, 52, 53, 54, 55, 56, 57, 58, 59, 60, 61, 62, 63, 64, 65, 66, 67, 68, 69, 70, 71, 72, 73, 74, 75, 76, 77, 78, 79, 80, 81, 82] rfl (by decide +kernel)
set_option maxRecDepth 20000 in
theorem gX6_need_X6_isSign : GoodIn wsX6_need (wsV RX6 130 RX6 yX6_isSign wsX6_isSign) := goodIn_app (goodIn_of _ (by decide +kernel)) ggX6_need_X6_isSign
set_option maxRecDepth 20000 in
theorem ggX6_need_X6_next : GoodIn wsX6_need wsX6_next := goodIn_r _ [12, 13, 14, 8, 7, 15, 16, 17, 18, 19, 20, 21, 22, 23, 5, 24, 25, 26, 27, 28, 29, 30, 31, 32, 38, 39, 40, 41, 42, 43, 44, 45, 46, 47, 48, 49, 50, 51, 52, 53, 54, 55, 56, 57, 58, 59, 60, 61, 62, 63, 64, 65, 66, 67, 68, 69, 70, 71, 72, 73, 74, 75, 76, 77, 78, 79, 80, 81, 82] rfl (by decide +kernel)
set_option maxRecDepth 20000 in
theorem gX6_need_X6_next : GoodIn wsX6_need (wsV RX6 133 RX6 yX6_next wsX6_next) := goodIn_app (goodIn_of _ (by decide +kernel)) ggX6_need_X6_next
set_option maxRecDepth 20000 in
theorem ggX6_need_X6_wrong : GoodIn wsX6_need wsX6_wrong := goodIn_r _ [36, 1, 14, 37, 38, 39, 40, 41, 42, 43, 44, 45, 46, 47, 48, 49, 50, 51, 52, 53, 54, 55, 56, 57, 58, 59, 60, 61, 62, 63, 64, 65, 66, 67, 68, 69, 70, 71, 72, 73, 74, 75, 76, 77, 78, 79, 80, 81, 82] rfl (by decide +kernel)
set_option maxRecDepth 20000 in
theorem gX6_need_X6_wrong : GoodIn wsX6_need (wsV RX6 136 RX6 yX6_wrong wsX6_wrong) := goodIn_app (goodIn_of _ (by decide +kernel)) ggX6_need_X6_wrong
theorem dX6_need_0 : decode cX6_need 0 = .ok (.aload_n 0, 1) := by decide +kernel
theorem dX6_need_1 : decode cX6_need 1 = .ok (.getfield 124, 3) := by decide +kernel
theorem dX6_need_4 : decode cX6_need 4 = .ok (.ifCond .eq 4, 3) := by decide +kernel
theorem dX6_need_7 : decode cX6_need 7 = .ok (.return_, 1) := by decide +kernel
theorem dX6_need_8 : decode cX6_need 8 = .ok (.aload_n 0, 1) := by decide +kernel
theorem dX6_need_9 : decode cX6_need 9 = .ok (.iload_n 1, 1) := by decide +kernel
theorem dX6_need_10 : decode cX6_need 10 = .ok (.invokevirtual 130, 3) := by decide +kernel
theorem dX6_need_13 : decode cX6_need 13 = .ok (.ifCond .eq 10, 3) := by decide +kernel
theorem dX6_need_16 : decode cX6_need 16 = .ok (.aload_n 0, 1) := by decide +kernel
theorem dX6_need_17 : decode cX6_need 17 = .ok (.invokevirtual 133, 3) := by decide +kernel
theorem dX6_need_20 : decode cX6_need 20 = .ok (.goto 8, 3) := by decide +kernel
theorem dX6_need_23 : decode cX6_need 23 = .ok (.aload_n 0, 1) := by decide +kernel
theorem dX6_need_24 : decode cX6_need 24 = .ok (.iconst 1, 1) := by decide +kernel
theorem dX6_need_25 : decode cX6_need 25 = .ok (.invokevirtual 136, 3) := by decide +kernel
theorem dX6_need_28 : decode cX6_need 28 = .ok (.return_, 1) := by decide +kernel
set_option maxRecDepth 20000 in
theorem ggX6_beginsEvent_X6_isSign : GoodIn wsX6_beginsEvent wsX6_isSign := goodIn_r _ [6, 1, 7, 8, 9, 10, 11, 12, 13, 14, 15, 16, 17, 18, 19, 20, 21, 22, 23, 24, 25, 26, 27, 28, 29, 30, 31, 32, 33, 34, 35, 36, 37, 38, 39, 40, 41, 42, 43, 44, 45, 46, 47, 48, 49, 50, 51, 52] rfl (by decide +kernel)
set_option maxRecDepth 20000 in
theorem gX6_beginsEvent_X6_isSign : GoodIn wsX6_beginsEvent (wsV RX6 130 RX6 yX6_isSign wsX6_isSign) := goodIn_app (goodIn_of _ (by decide +kernel)) ggX6_beginsEvent_X6_isSign
theorem dX6_beginsEvent_0 : decode cX6_beginsEvent 0 = .ok (.aload_n 0, 1) := by decide +kernel
theorem dX6_beginsEvent_1 : decode cX6_beginsEvent 1 = .ok (.getfield 102, 3) := by decide +kernel
theorem dX6_beginsEvent_4 : decode cX6_beginsEvent 4 = .ok (.iconst 1, 1) := by decide +kernel
theorem dX6_beginsEvent_5 : decode cX6_beginsEvent 5 = .ok (.if_icmp .eq 30, 3) := by decide +kernel
theorem dX6_beginsEvent_8 : decode cX6_beginsEvent 8 = .ok (.aload_n 0, 1) := by decide +kernel
theorem dX6_beginsEvent_9 : decode cX6_beginsEvent 9 = .ok (.bipush 40, 2) := by decide +kernel
theorem dX6_beginsEvent_11 : decode cX6_beginsEvent 11 = .ok (.invokevirtual 130, 3) := by decide +kernel
theorem dX6_beginsEvent_14 : decode cX6_beginsEvent 14 = .ok (.ifCond .ne 21, 3) := by decide +kernel
theorem dX6_beginsEvent_17 : decode cX6_beginsEvent 17 = .ok (.aload_n 0, 1) := by decide +kernel
theorem dX6_beginsEvent_18 : decode cX6_beginsEvent 18 = .ok (.bipush 126, 2) := by decide +kernel
theorem dX6_beginsEvent_20 : decode cX6_beginsEvent 20 = .ok (.invokevirtual 130, 3) := by decide +kernel
theorem dX6_beginsEvent_23 : decode cX6_beginsEvent 23 = .ok (.ifCond .ne 12, 3) := by decide +kernel
theorem dX6_beginsEvent_26 : decode cX6_beginsEvent 26 = .ok (.aload_n 0, 1) := by decide +kernel
theorem dX6_beginsEvent_27 : decode cX6_beginsEvent 27 = .ok (.bipush 114, 2) := by decide +kernel
theorem dX6_beginsEvent_29 : decode cX6_beginsEvent 29 = .ok (.invokevirtual 130, 3) := by decide +kernel
theorem dX6_beginsEvent_32 : decode cX6_beginsEvent 32 = .ok (.ifCond .eq 7, 3) := by decide +kernel
theorem dX6_beginsEvent_35 : decode cX6_beginsEvent 35 = .ok (.iconst 1, 1) := by decide +kernel
theorem dX6_beginsEvent_36 : decode cX6_beginsEvent 36 = .ok (.goto 4, 3) := by decide +kernel
theorem dX6_beginsEvent_39 : decode cX6_beginsEvent 39 = .ok (.iconst 0, 1) := by decide +kernel
theorem dX6_beginsEvent_40 : decode cX6_beginsEvent 40 = .ok (.ireturn, 1) := by decide +kernel
set_option maxRecDepth 20000 in
theorem ggX6_beginsMarked_X6_beginsEvent : GoodIn wsX6_beginsMarked wsX6_beginsEvent := goodIn_r _ [5, 6, 7, 8, 9, 4, 10, 11, 12, 13, 14, 15, 16, 17, 18, 19, 20, 21, 22, 23, 24, 25, 26, 27, 28, 29, 30, 31, 32, 33, 34, 35, 36, 37, 38, 39, 40, 41, 42, 43, 44, 45, 46, 47, 48, 49, 50, 51, 52, 53, 54, 55, 56] rfl (by decide +kernel)
set_option maxRecDepth 20000 in
theorem gX6_beginsMarked_X6_beginsEvent : GoodIn wsX6_beginsMarked (wsV RX6 140 RX6 yX6_beginsEvent wsX6_beginsEvent) := goodIn_app (goodIn_of _ (by decide +kernel)) ggX6_beginsMarked_X6_beginsEvent
set_option maxRecDepth 20000 in
theorem ggX6_beginsMarked_X6_isSign : GoodIn wsX6_beginsMarked wsX6_isSign := goodIn_r _ [10, 6, 11, 12, 13, 14, 15, 16, 17, 18, 19, 20, 21, 22, 23, 24, 25, 26, 27, 28, 29, 30, 31, 32, 33, 34, 35, 36, 37, 38, 39, 40, 41, 42, 43, 44, 45, 46, 47, 48, 49, 50, 51, 52, 53, 54, 55, 56] rfl (by decide +kernel)
set_option maxRecDepth 20000 in
theorem gX6_beginsMarked_X6_isSign : GoodIn wsX6_beginsMarked (wsV RX6 130 RX6 yX6_isSign wsX6_isSign) := goodIn_app (goodIn_of _ (by decide +kernel)) ggX6_beginsMarked_X6_isSign
theorem dX6_beginsMarked_0 : decode cX6_beginsMarked 0 = .ok (.aload_n 0, 1) := by decide +kernel
theorem dX6_beginsMarked_1 : decode cX6_beginsMarked 1 = .ok (.invokevirtual 140, 3) := by decide +kernel
theorem dX6_beginsMarked_4 : decode cX6_beginsMarked 4 = .ok (.ifCond .ne 21, 3) := by decide +kernel
theorem dX6_beginsMarked_7 : decode cX6_beginsMarked 7 = .ok (.aload_n 0, 1) := by decide +kernel
theorem dX6_beginsMarked_8 : decode cX6_beginsMarked 8 = .ok (.bipush 64, 2) := by decide +kernel
theorem dX6_beginsMarked_10 : decode cX6_beginsMarked 10 = .ok (.invokevirtual 130, 3) := by decide +kernel
theorem dX6_beginsMarked_13 : decode cX6_beginsMarked 13 = .ok (.ifCond .ne 12, 3) := by decide +kernel
theorem dX6_beginsMarked_16 : decode cX6_beginsMarked 16 = .ok (.aload_n 0, 1) := by decide +kernel
theorem dX6_beginsMarked_17 : decode cX6_beginsMarked 17 = .ok (.bipush 33, 2) := by decide +kernel
theorem dX6_beginsMarked_19 : decode cX6_beginsMarked 19 = .ok (.invokevirtual 130, 3) := by decide +kernel
theorem dX6_beginsMarked_22 : decode cX6_beginsMarked 22 = .ok (.ifCond .eq 7, 3) := by decide +kernel
theorem dX6_beginsMarked_25 : decode cX6_beginsMarked 25 = .ok (.iconst 1, 1) := by decide +kernel
theorem dX6_beginsMarked_26 : decode cX6_beginsMarked 26 = .ok (.goto 4, 3) := by decide +kernel
theorem dX6_beginsMarked_29 : decode cX6_beginsMarked 29 = .ok (.iconst 0, 1) := by decide +kernel
theorem dX6_beginsMarked_30 : decode cX6_beginsMarked 30 = .ok (.ireturn, 1) := by decide +kernel
set_option maxRecDepth 20000 in
theorem ggX6_readAll_X6_next : GoodIn wsX6_readAll wsX6_next := goodIn_r _ [17, 9, 18, 19, 10, 20, 21, 22, 23, 24, 25, 26, 27, 28, 16, 29, 30, 31, 32, 33, 34, 35, 36, 37, 76, 77, 78, 79, 80, 81, 82, 83, 84, 85, 86, 87, 88, 89, 90, 91, 92, 93, 94, 95, 96, 97, 98, 99, 100, 101, 102, 103, 104, 105, 106, 107, 108, 109, 110, 111, 112, 113, 114, 115, 116, 117, 118, 119, 120] rfl (by decide +kernel)
set_option maxRecDepth 20000 in
theorem gX6_readAll_X6_next : GoodIn wsX6_readAll (wsV RX6 133 RX6 yX6_next wsX6_next) := goodIn_app (goodIn_of _ (by decide +kernel)) ggX6_readAll_X6_next
set_option maxRecDepth 20000 in
theorem ggX6_readAll_X6_isSign : GoodIn wsX6_readAll wsX6_isSign := goodIn_r _ [41, 10, 19, 76, 77, 78, 79, 80, 81, 82, 83, 84, 85, 86, 87, 88, 89, 90, 91, 92, 93, 94, 95, 96, 97, 98, 99, 100, 101, 102, 103, 104, 105, 106, 107, 108, 109, 110, 111, 112, 113, 114, 115, 116, 117, 118, 119, 120] rfl (by decide +kernel)
set_option maxRecDepth 20000 in
theorem gX6_readAll_X6_isSign : GoodIn wsX6_readAll (wsV RX6 130 RX6 yX6_isSign wsX6_isSign) := goodIn_app (goodIn_of _ (by decide +kernel)) ggX6_readAll_X6_isSign
set_option maxRecDepth 20000 in
theorem ggX6_readAll_X6_beginsMarked : GoodIn wsX6_readAll wsX6_beginsMarked := goodIn_r _ [45, 46, 47, 48, 16, 49, 10, 38, 39, 40, 41, 19, 76, 77, 78, 79, 80, 81, 82, 83, 84, 85, 86, 87, 88, 89, 90, 91, 92, 93, 94, 95, 96, 97, 98, 99, 100, 101, 102, 103, 104, 105, 106, 107, 108, 109, 110, 111, 112, 113, 114, 115, 116, 117, 118, 119, 120] rfl (by decide +kernel)
set_option maxRecDepth 20000 in
theorem gX6_readAll_X6_beginsMarked : GoodIn wsX6_readAll (wsV RX6 168 RX6 yX6_beginsMarked wsX6_beginsMarked) := goodIn_app (goodIn_of _ (by decide +kernel)) ggX6_readAll_X6_beginsMarked
set_option maxRecDepth 20000 in
theorem ggX6_readAll_X6_wrong : GoodIn wsX6_readAll wsX6_wrong := goodIn_r _ [53, 8, 18, 54, 76, 77, 78, 79, 80, 81, 82, 83, 84, 85, 86, 87, 88, 89, 90, 91, 92, 93, 94, 95, 96, 97, 98, 99, 100, 101, 102, 103, 104, 105, 106, 107, 108, 109, 110, 111, 112, 113, 114, 115, 116, 117, 118, 119, 120] rfl (by decide +kernel)
set_option maxRecDepth 20000 in
theorem gX6_readAll_X6_wrong : GoodIn wsX6_readAll (wsV RX6 136 RX6 yX6_wrong wsX6_wrong) := goodIn_app (goodIn_of _ (by decide +kernel)) ggX6_readAll_X6_wrong
set_option maxRecDepth 20000 in
theorem ggX6_readAll_X6_readMarked : GoodIn wsX6_readAll wsX6_readMarked := goodIn_r _ [58, 6, 8, 5, 1, 59, 12, 60, 61, 62, 2, 63, 64, 4, 65, 10, 25, 18, 20, 66, 38, 39, 40, 16, 41, 19, 50, 51, 52, 53, 54, 13, 14, 15, 17, 9, 21, 22, 23, 24, 26, 27, 28, 29, 30, 31, 32, 33, 34, 35, 36, 37, 46, 47, 48, 49, 67, 68, 69, 70, 71, 72, 73, 74, 75, 76, 77, 78, 79, 80, 81, 82, 83, 84, 85, 86, 87, 88, 89, 90, 91, 92, 93, 94, 95, 96, 97, 98, 99, 100, 101, 102, 103, 104, 105, 106, 107, 108, 109, 110, 111, 112, 113, 114, 115, 116, 117, 118, 119, 120] rfl (by decide +kernel)
set_option maxRecDepth 20000 in
theorem gX6_readAll_X6_readMarked : GoodIn wsX6_readAll (wsV RX6 171 RX6 yX6_readMarked wsX6_readMarked) := goodIn_app (goodIn_of _ (by decide +kernel)) ggX6_readAll_X6_readMarked
theorem dX6_readAll_0 : decode cX6_readAll 0 = .ok (.aload_n 0, 1) := by decide +kernel
theorem dX6_readAll_1 : decode cX6_readAll 1 = .ok (.iconst 0, 1) := by decide +kernel
theorem dX6_readAll_2 : decode cX6_readAll 2 = .ok (.putfield 144, 3) := by decide +kernel
theorem dX6_readAll_5 : decode cX6_readAll 5 = .ok (.aload_n 0, 1) := by decide +kernel
theorem dX6_readAll_6 : decode cX6_readAll 6 = .ok (.iconst 0, 1) := by decide +kernel
theorem dX6_readAll_7 : decode cX6_readAll 7 = .ok (.putfield 147, 3) := by decide +kernel
theorem dX6_readAll_10 : decode cX6_readAll 10 = .ok (.aload_n 0, 1) := by decide +kernel
theorem dX6_readAll_11 : decode cX6_readAll 11 = .ok (.iconst 0, 1) := by decide +kernel
theorem dX6_readAll_12 : decode cX6_readAll 12 = .ok (.putfield 150, 3) := by decide +kernel
theorem dX6_readAll_15 : decode cX6_readAll 15 = .ok (.aload_n 0, 1) := by decide +kernel
theorem dX6_readAll_16 : decode cX6_readAll 16 = .ok (.iconst 0, 1) := by decide +kernel
theorem dX6_readAll_17 : decode cX6_readAll 17 = .ok (.putfield 153, 3) := by decide +kernel
theorem dX6_readAll_20 : decode cX6_readAll 20 = .ok (.aload_n 0, 1) := by decide +kernel
theorem dX6_readAll_21 : decode cX6_readAll 21 = .ok (.iconst 0, 1) := by decide +kernel
theorem dX6_readAll_22 : decode cX6_readAll 22 = .ok (.putfield 156, 3) := by decide +kernel
theorem dX6_readAll_25 : decode cX6_readAll 25 = .ok (.aload_n 0, 1) := by decide +kernel
theorem dX6_readAll_26 : decode cX6_readAll 26 = .ok (.iconst 0, 1) := by decide +kernel
theorem dX6_readAll_27 : decode cX6_readAll 27 = .ok (.putfield 159, 3) := by decide +kernel
theorem dX6_readAll_30 : decode cX6_readAll 30 = .ok (.aload_n 0, 1) := by decide +kernel
theorem dX6_readAll_31 : decode cX6_readAll 31 = .ok (.iconst 0, 1) := by decide +kernel
theorem dX6_readAll_32 : decode cX6_readAll 32 = .ok (.putfield 162, 3) := by decide +kernel
theorem dX6_readAll_35 : decode cX6_readAll 35 = .ok (.aload_n 0, 1) := by decide +kernel
theorem dX6_readAll_36 : decode cX6_readAll 36 = .ok (.iconst 0, 1) := by decide +kernel
theorem dX6_readAll_37 : decode cX6_readAll 37 = .ok (.putfield 124, 3) := by decide +kernel
theorem dX6_readAll_40 : decode cX6_readAll 40 = .ok (.aload_n 0, 1) := by decide +kernel
theorem dX6_readAll_41 : decode cX6_readAll 41 = .ok (.iconst 0, 1) := by decide +kernel
theorem dX6_readAll_42 : decode cX6_readAll 42 = .ok (.putfield 89, 3) := by decide +kernel
theorem dX6_readAll_45 : decode cX6_readAll 45 = .ok (.iconst 0, 1) := by decide +kernel
theorem dX6_readAll_46 : decode cX6_readAll 46 = .ok (.istore_n 1, 1) := by decide +kernel
theorem dX6_readAll_47 : decode cX6_readAll 47 = .ok (.aload_n 0, 1) := by decide +kernel
theorem dX6_readAll_48 : decode cX6_readAll 48 = .ok (.invokevirtual 133, 3) := by decide +kernel
theorem dX6_readAll_51 : decode cX6_readAll 51 = .ok (.aload_n 0, 1) := by decide +kernel
theorem dX6_readAll_52 : decode cX6_readAll 52 = .ok (.getfield 124, 3) := by decide +kernel
theorem dX6_readAll_55 : decode cX6_readAll 55 = .ok (.ifCond .ne 180, 3) := by decide +kernel
theorem dX6_readAll_58 : decode cX6_readAll 58 = .ok (.aload_n 0, 1) := by decide +kernel
theorem dX6_readAll_59 : decode cX6_readAll 59 = .ok (.getfield 102, 3) := by decide +kernel
theorem dX6_readAll_62 : decode cX6_readAll 62 = .ok (.ifCond .eq 173, 3) := by decide +kernel
theorem dX6_readAll_65 : decode cX6_readAll 65 = .ok (.aload_n 0, 1) := by decide +kernel
theorem dX6_readAll_66 : decode cX6_readAll 66 = .ok (.aload_n 0, 1) := by decide +kernel
theorem dX6_readAll_67 : decode cX6_readAll 67 = .ok (.getfield 144, 3) := by decide +kernel
theorem dX6_readAll_70 : decode cX6_readAll 70 = .ok (.putfield 165, 3) := by decide +kernel
theorem dX6_readAll_73 : decode cX6_readAll 73 = .ok (.aload_n 0, 1) := by decide +kernel
theorem dX6_readAll_74 : decode cX6_readAll 74 = .ok (.sipush 256, 3) := by decide +kernel
theorem dX6_readAll_77 : decode cX6_readAll 77 = .ok (.invokevirtual 130, 3) := by decide +kernel
theorem dX6_readAll_80 : decode cX6_readAll 80 = .ok (.ifCond .eq 15, 3) := by decide +kernel
theorem dX6_readAll_83 : decode cX6_readAll 83 = .ok (.aload_n 0, 1) := by decide +kernel
theorem dX6_readAll_84 : decode cX6_readAll 84 = .ok (.aload_n 0, 1) := by decide +kernel
theorem dX6_readAll_85 : decode cX6_readAll 85 = .ok (.getfield 144, 3) := by decide +kernel
theorem dX6_readAll_88 : decode cX6_readAll 88 = .ok (.putfield 162, 3) := by decide +kernel
theorem dX6_readAll_91 : decode cX6_readAll 91 = .ok (.aload_n 0, 1) := by decide +kernel
theorem dX6_readAll_92 : decode cX6_readAll 92 = .ok (.invokevirtual 133, 3) := by decide +kernel
theorem dX6_readAll_95 : decode cX6_readAll 95 = .ok (.aload_n 0, 1) := by decide +kernel
theorem dX6_readAll_96 : decode cX6_readAll 96 = .ok (.invokevirtual 168, 3) := by decide +kernel
theorem dX6_readAll_99 : decode cX6_readAll 99 = .ok (.ifCond .ne 8, 3) := by decide +kernel
theorem dX6_readAll_102 : decode cX6_readAll 102 = .ok (.aload_n 0, 1) := by decide +kernel
theorem dX6_readAll_103 : decode cX6_readAll 103 = .ok (.iconst 1, 1) := by decide +kernel
theorem dX6_readAll_104 : decode cX6_readAll 104 = .ok (.invokevirtual 136, 3) := by decide +kernel
theorem dX6_readAll_107 : decode cX6_readAll 107 = .ok (.aload_n 0, 1) := by decide +kernel
theorem dX6_readAll_108 : decode cX6_readAll 108 = .ok (.getfield 124, 3) := by decide +kernel
theorem dX6_readAll_111 : decode cX6_readAll 111 = .ok (.ifCond .ne 18, 3) := by decide +kernel
theorem dX6_readAll_114 : decode cX6_readAll 114 = .ok (.aload_n 0, 1) := by decide +kernel
theorem dX6_readAll_115 : decode cX6_readAll 115 = .ok (.invokevirtual 168, 3) := by decide +kernel
theorem dX6_readAll_118 : decode cX6_readAll 118 = .ok (.ifCond .eq 11, 3) := by decide +kernel
theorem dX6_readAll_121 : decode cX6_readAll 121 = .ok (.aload_n 0, 1) := by decide +kernel
theorem dX6_readAll_122 : decode cX6_readAll 122 = .ok (.iload_n 1, 1) := by decide +kernel
theorem dX6_readAll_123 : decode cX6_readAll 123 = .ok (.invokevirtual 171, 3) := by decide +kernel
theorem dX6_readAll_126 : decode cX6_readAll 126 = .ok (.goto (-19), 3) := by decide +kernel
theorem dX6_readAll_129 : decode cX6_readAll 129 = .ok (.aload_n 0, 1) := by decide +kernel
theorem dX6_readAll_130 : decode cX6_readAll 130 = .ok (.getfield 124, 3) := by decide +kernel
theorem dX6_readAll_133 : decode cX6_readAll 133 = .ok (.ifCond .eq 4, 3) := by decide +kernel
theorem dX6_readAll_136 : decode cX6_readAll 136 = .ok (.return_, 1) := by decide +kernel
theorem dX6_readAll_137 : decode cX6_readAll 137 = .ok (.aload_n 0, 1) := by decide +kernel
theorem dX6_readAll_138 : decode cX6_readAll 138 = .ok (.bipush 124, 2) := by decide +kernel
theorem dX6_readAll_140 : decode cX6_readAll 140 = .ok (.invokevirtual 130, 3) := by decide +kernel
theorem dX6_readAll_143 : decode cX6_readAll 143 = .ok (.ifCond .ne 19, 3) := by decide +kernel
theorem dX6_readAll_146 : decode cX6_readAll 146 = .ok (.aload_n 0, 1) := by decide +kernel
theorem dX6_readAll_147 : decode cX6_readAll 147 = .ok (.sipush 257, 3) := by decide +kernel
theorem dX6_readAll_150 : decode cX6_readAll 150 = .ok (.invokevirtual 130, 3) := by decide +kernel
theorem dX6_readAll_153 : decode cX6_readAll 153 = .ok (.ifCond .ne 9, 3) := by decide +kernel
theorem dX6_readAll_156 : decode cX6_readAll 156 = .ok (.aload_n 0, 1) := by decide +kernel
theorem dX6_readAll_157 : decode cX6_readAll 157 = .ok (.iconst 1, 1) := by decide +kernel
theorem dX6_readAll_158 : decode cX6_readAll 158 = .ok (.invokevirtual 136, 3) := by decide +kernel
theorem dX6_readAll_161 : decode cX6_readAll 161 = .ok (.return_, 1) := by decide +kernel
theorem dX6_readAll_162 : decode cX6_readAll 162 = .ok (.aload_n 0, 1) := by decide +kernel
theorem dX6_readAll_163 : decode cX6_readAll 163 = .ok (.sipush 257, 3) := by decide +kernel
theorem dX6_readAll_166 : decode cX6_readAll 166 = .ok (.invokevirtual 130, 3) := by decide +kernel
theorem dX6_readAll_169 : decode cX6_readAll 169 = .ok (.ifCond .eq 26, 3) := by decide +kernel
theorem dX6_readAll_172 : decode cX6_readAll 172 = .ok (.aload_n 0, 1) := by decide +kernel
theorem dX6_readAll_173 : decode cX6_readAll 173 = .ok (.getfield 38, 3) := by decide +kernel
theorem dX6_readAll_176 : decode cX6_readAll 176 = .ok (.aload_n 0, 1) := by decide +kernel
theorem dX6_readAll_177 : decode cX6_readAll 177 = .ok (.getfield 144, 3) := by decide +kernel
theorem dX6_readAll_180 : decode cX6_readAll 180 = .ok (.iconst 1, 1) := by decide +kernel
theorem dX6_readAll_181 : decode cX6_readAll 181 = .ok (.isub, 1) := by decide +kernel
theorem dX6_readAll_182 : decode cX6_readAll 182 = .ok (.aload_n 0, 1) := by decide +kernel
theorem dX6_readAll_183 : decode cX6_readAll 183 = .ok (.getfield 162, 3) := by decide +kernel
theorem dX6_readAll_186 : decode cX6_readAll 186 = .ok (.iastore, 1) := by decide +kernel
theorem dX6_readAll_187 : decode cX6_readAll 187 = .ok (.aload_n 0, 1) := by decide +kernel
theorem dX6_readAll_188 : decode cX6_readAll 188 = .ok (.aload_n 0, 1) := by decide +kernel
theorem dX6_readAll_189 : decode cX6_readAll 189 = .ok (.getfield 144, 3) := by decide +kernel
theorem dX6_readAll_192 : decode cX6_readAll 192 = .ok (.putfield 162, 3) := by decide +kernel
theorem dX6_readAll_195 : decode cX6_readAll 195 = .ok (.aload_n 0, 1) := by decide +kernel
theorem dX6_readAll_196 : decode cX6_readAll 196 = .ok (.dup, 1) := by decide +kernel
theorem dX6_readAll_197 : decode cX6_readAll 197 = .ok (.getfield 147, 3) := by decide +kernel
theorem dX6_readAll_200 : decode cX6_readAll 200 = .ok (.iconst 1, 1) := by decide +kernel
theorem dX6_readAll_201 : decode cX6_readAll 201 = .ok (.iadd, 1) := by decide +kernel
theorem dX6_readAll_202 : decode cX6_readAll 202 = .ok (.putfield 147, 3) := by decide +kernel
theorem dX6_readAll_205 : decode cX6_readAll 205 = .ok (.aload_n 0, 1) := by decide +kernel
theorem dX6_readAll_206 : decode cX6_readAll 206 = .ok (.iload_n 1, 1) := by decide +kernel
theorem dX6_readAll_207 : decode cX6_readAll 207 = .ok (.iconst 1, 1) := by decide +kernel
theorem dX6_readAll_208 : decode cX6_readAll 208 = .ok (.iadd, 1) := by decide +kernel
theorem dX6_readAll_209 : decode cX6_readAll 209 = .ok (.putfield 150, 3) := by decide +kernel
theorem dX6_readAll_212 : decode cX6_readAll 212 = .ok (.aload_n 0, 1) := by decide +kernel
theorem dX6_readAll_213 : decode cX6_readAll 213 = .ok (.invokevirtual 133, 3) := by decide +kernel
theorem dX6_readAll_216 : decode cX6_readAll 216 = .ok (.aload_n 0, 1) := by decide +kernel
theorem dX6_readAll_217 : decode cX6_readAll 217 = .ok (.bipush 37, 2) := by decide +kernel
theorem dX6_readAll_219 : decode cX6_readAll 219 = .ok (.invokevirtual 130, 3) := by decide +kernel
theorem dX6_readAll_222 : decode cX6_readAll 222 = .ok (.ifCond .eq (-171), 3) := by decide +kernel
theorem dX6_readAll_225 : decode cX6_readAll 225 = .ok (.iinc 1 1, 3) := by decide +kernel
theorem dX6_readAll_228 : decode cX6_readAll 228 = .ok (.aload_n 0, 1) := by decide +kernel
theorem dX6_readAll_229 : decode cX6_readAll 229 = .ok (.invokevirtual 133, 3) := by decide +kernel
theorem dX6_readAll_232 : decode cX6_readAll 232 = .ok (.goto (-181), 3) := by decide +kernel
theorem dX6_readAll_235 : decode cX6_readAll 235 = .ok (.return_, 1) := by decide +kernel
set_option maxRecDepth 20000 in
theorem ggX6_readMarked_X6_isSign : GoodIn wsX6_readMarked wsX6_isSign := goodIn_r _ [24, 15, 25, 65, 66, 67, 68, 69, 70, 71, 72, 73, 74, 75, 76, 77, 78, 79, 80, 81, 82, 83, 84, 85, 86, 87, 88, 89, 90, 91, 92, 93, 94, 95, 96, 97, 98, 99, 100, 101, 102, 103, 104, 105, 106, 107, 108, 109] rfl (by decide +kernel)
set_option maxRecDepth 20000 in
theorem gX6_readMarked_X6_isSign : GoodIn wsX6_readMarked (wsV RX6 130 RX6 yX6_isSign wsX6_isSign) := goodIn_app (goodIn_of _ (by decide +kernel)) ggX6_readMarked_X6_isSign
set_option maxRecDepth 20000 in
theorem ggX6_readMarked_X6_wrong : GoodIn wsX6_readMarked wsX6_wrong := goodIn_r _ [29, 2, 17, 30, 65, 66, 67, 68, 69, 70, 71, 72, 73, 74, 75, 76, 77, 78, 79, 80, 81, 82, 83, 84, 85, 86, 87, 88, 89, 90, 91, 92, 93, 94, 95, 96, 97, 98, 99, 100, 101, 102, 103, 104, 105, 106, 107, 108, 109] rfl (by decide +kernel)
set_option maxRecDepth 20000 in
theorem gX6_readMarked_X6_wrong : GoodIn wsX6_readMarked (wsV RX6 136 RX6 yX6_wrong wsX6_wrong) := goodIn_app (goodIn_of _ (by decide +kernel)) ggX6_readMarked_X6_wrong
set_option maxRecDepth 20000 in
theorem ggX6_readMarked_X6_next : GoodIn wsX6_readMarked wsX6_next := goodIn_r _ [34, 35, 17, 25, 15, 18, 36, 37, 38, 39, 16, 40, 41, 42, 23, 43, 44, 45, 46, 47, 48, 49, 50, 51, 65, 66, 67, 68, 69, 70, 71, 72, 73, 74, 75, 76, 77, 78, 79, 80, 81, 82, 83, 84, 85, 86, 87, 88, 89, 90, 91, 92, 93, 94, 95, 96, 97, 98, 99, 100, 101, 102, 103, 104, 105, 106, 107, 108, 109] rfl (by decide +kernel)
set_option maxRecDepth 20000 in
theorem gX6_readMarked_X6_next : GoodIn wsX6_readMarked (wsV RX6 133 RX6 yX6_next wsX6_next) := goodIn_app (goodIn_of _ (by decide +kernel)) ggX6_readMarked_X6_next
set_option maxRecDepth 20000 in
theorem ggX6_readMarked_X6_beginsEvent : GoodIn wsX6_readMarked wsX6_beginsEvent := goodIn_r _ [55, 15, 20, 21, 22, 23, 24, 25, 65, 66, 67, 68, 69, 70, 71, 72, 73, 74, 75, 76, 77, 78, 79, 80, 81, 82, 83, 84, 85, 86, 87, 88, 89, 90, 91, 92, 93, 94, 95, 96, 97, 98, 99, 100, 101, 102, 103, 104, 105, 106, 107, 108, 109] rfl (by decide +kernel)
set_option maxRecDepth 20000 in
theorem gX6_readMarked_X6_beginsEvent : GoodIn wsX6_readMarked (wsV RX6 140 RX6 yX6_beginsEvent wsX6_beginsEvent) := goodIn_app (goodIn_of _ (by decide +kernel)) ggX6_readMarked_X6_beginsEvent
set_option maxRecDepth 20000 in
theorem ggX6_readMarked_X6_readPitch : GoodIn wsX6_readMarked wsX6_readPitch := goodIn_r _ [59, 5, 60, 18, 2, 26, 27, 28, 23, 29, 17, 30, 31, 32, 33, 34, 35, 25, 15, 36, 37, 38, 39, 16, 40, 41, 42, 43, 44, 45, 46, 47, 48, 49, 50, 51, 65, 66, 67, 68, 69, 70, 71, 72, 73, 74, 75, 76, 77, 78, 79, 80, 81, 82, 83, 84, 85, 86, 87, 88, 89, 90, 91, 92, 93, 94, 95, 96, 97, 98, 99, 100, 101, 102, 103, 104, 105, 106, 107, 108, 109] rfl (by decide +kernel)
set_option maxRecDepth 20000 in
theorem gX6_readMarked_X6_readPitch : GoodIn wsX6_readMarked (wsV RX6 174 RX6 yX6_readPitch wsX6_readPitch) := goodIn_app (goodIn_of _ (by decide +kernel)) ggX6_readMarked_X6_readPitch
set_option maxRecDepth 20000 in
theorem ggX6_readMarked_X6_need : GoodIn wsX6_readMarked wsX6_need := goodIn_r _ [64, 2, 20, 21, 22, 23, 24, 15, 25, 31, 32, 33, 34, 35, 17, 18, 36, 37, 38, 39, 16, 40, 41, 42, 43, 44, 45, 46, 47, 48, 49, 50, 51, 26, 27, 28, 29, 30, 65, 66, 67, 68, 69, 70, 71, 72, 73, 74, 75, 76, 77, 78, 79, 80, 81, 82, 83, 84, 85, 86, 87, 88, 89, 90, 91, 92, 93, 94, 95, 96, 97, 98, 99, 100, 101, 102, 103, 104, 105, 106, 107, 108, 109] rfl (by decide +kernel)
set_option maxRecDepth 20000 in
theorem gX6_readMarked_X6_need : GoodIn wsX6_readMarked (wsV RX6 177 RX6 yX6_need wsX6_need) := goodIn_app (goodIn_of _ (by decide +kernel)) ggX6_readMarked_X6_need
theorem dX6_readMarked_0 : decode cX6_readMarked 0 = .ok (.aload_n 0, 1) := by decide +kernel
theorem dX6_readMarked_1 : decode cX6_readMarked 1 = .ok (.bipush 64, 2) := by decide +kernel
theorem dX6_readMarked_3 : decode cX6_readMarked 3 = .ok (.invokevirtual 130, 3) := by decide +kernel
theorem dX6_readMarked_6 : decode cX6_readMarked 6 = .ok (.istore_n 2, 1) := by decide +kernel
theorem dX6_readMarked_7 : decode cX6_readMarked 7 = .ok (.iload_n 2, 1) := by decide +kernel
theorem dX6_readMarked_8 : decode cX6_readMarked 8 = .ok (.ifCond .eq 38, 3) := by decide +kernel
theorem dX6_readMarked_11 : decode cX6_readMarked 11 = .ok (.aload_n 0, 1) := by decide +kernel
theorem dX6_readMarked_12 : decode cX6_readMarked 12 = .ok (.getfield 159, 3) := by decide +kernel
theorem dX6_readMarked_15 : decode cX6_readMarked 15 = .ok (.bipush 10, 2) := by decide +kernel
theorem dX6_readMarked_17 : decode cX6_readMarked 17 = .ok (.if_icmp .ne 8, 3) := by decide +kernel
theorem dX6_readMarked_20 : decode cX6_readMarked 20 = .ok (.aload_n 0, 1) := by decide +kernel
theorem dX6_readMarked_21 : decode cX6_readMarked 21 = .ok (.iconst 2, 1) := by decide +kernel
theorem dX6_readMarked_22 : decode cX6_readMarked 22 = .ok (.invokevirtual 136, 3) := by decide +kernel
theorem dX6_readMarked_25 : decode cX6_readMarked 25 = .ok (.aload_n 0, 1) := by decide +kernel
theorem dX6_readMarked_26 : decode cX6_readMarked 26 = .ok (.dup, 1) := by decide +kernel
theorem dX6_readMarked_27 : decode cX6_readMarked 27 = .ok (.getfield 159, 3) := by decide +kernel
theorem dX6_readMarked_30 : decode cX6_readMarked 30 = .ok (.iconst 1, 1) := by decide +kernel
theorem dX6_readMarked_31 : decode cX6_readMarked 31 = .ok (.iadd, 1) := by decide +kernel
theorem dX6_readMarked_32 : decode cX6_readMarked 32 = .ok (.putfield 159, 3) := by decide +kernel
theorem dX6_readMarked_35 : decode cX6_readMarked 35 = .ok (.aload_n 0, 1) := by decide +kernel
theorem dX6_readMarked_36 : decode cX6_readMarked 36 = .ok (.getfield 124, 3) := by decide +kernel
theorem dX6_readMarked_39 : decode cX6_readMarked 39 = .ok (.ifCond .ne 7, 3) := by decide +kernel
theorem dX6_readMarked_42 : decode cX6_readMarked 42 = .ok (.aload_n 0, 1) := by decide +kernel
theorem dX6_readMarked_43 : decode cX6_readMarked 43 = .ok (.invokevirtual 133, 3) := by decide +kernel
theorem dX6_readMarked_46 : decode cX6_readMarked 46 = .ok (.aload_n 0, 1) := by decide +kernel
theorem dX6_readMarked_47 : decode cX6_readMarked 47 = .ok (.getfield 124, 3) := by decide +kernel
theorem dX6_readMarked_50 : decode cX6_readMarked 50 = .ok (.ifCond .ne 16, 3) := by decide +kernel
theorem dX6_readMarked_53 : decode cX6_readMarked 53 = .ok (.aload_n 0, 1) := by decide +kernel
theorem dX6_readMarked_54 : decode cX6_readMarked 54 = .ok (.bipush 33, 2) := by decide +kernel
theorem dX6_readMarked_56 : decode cX6_readMarked 56 = .ok (.invokevirtual 130, 3) := by decide +kernel
theorem dX6_readMarked_59 : decode cX6_readMarked 59 = .ok (.ifCond .eq 7, 3) := by decide +kernel
theorem dX6_readMarked_62 : decode cX6_readMarked 62 = .ok (.iconst 1, 1) := by decide +kernel
theorem dX6_readMarked_63 : decode cX6_readMarked 63 = .ok (.goto 4, 3) := by decide +kernel
theorem dX6_readMarked_66 : decode cX6_readMarked 66 = .ok (.iconst 0, 1) := by decide +kernel
theorem dX6_readMarked_67 : decode cX6_readMarked 67 = .ok (.istore_n 3, 1) := by decide +kernel
theorem dX6_readMarked_68 : decode cX6_readMarked 68 = .ok (.iload_n 3, 1) := by decide +kernel
theorem dX6_readMarked_69 : decode cX6_readMarked 69 = .ok (.ifCond .eq 38, 3) := by decide +kernel
theorem dX6_readMarked_72 : decode cX6_readMarked 72 = .ok (.aload_n 0, 1) := by decide +kernel
theorem dX6_readMarked_73 : decode cX6_readMarked 73 = .ok (.getfield 156, 3) := by decide +kernel
theorem dX6_readMarked_76 : decode cX6_readMarked 76 = .ok (.bipush 20, 2) := by decide +kernel
theorem dX6_readMarked_78 : decode cX6_readMarked 78 = .ok (.if_icmp .ne 8, 3) := by decide +kernel
theorem dX6_readMarked_81 : decode cX6_readMarked 81 = .ok (.aload_n 0, 1) := by decide +kernel
theorem dX6_readMarked_82 : decode cX6_readMarked 82 = .ok (.iconst 2, 1) := by decide +kernel
theorem dX6_readMarked_83 : decode cX6_readMarked 83 = .ok (.invokevirtual 136, 3) := by decide +kernel
theorem dX6_readMarked_86 : decode cX6_readMarked 86 = .ok (.aload_n 0, 1) := by decide +kernel
theorem dX6_readMarked_87 : decode cX6_readMarked 87 = .ok (.dup, 1) := by decide +kernel
theorem dX6_readMarked_88 : decode cX6_readMarked 88 = .ok (.getfield 156, 3) := by decide +kernel
theorem dX6_readMarked_91 : decode cX6_readMarked 91 = .ok (.iconst 1, 1) := by decide +kernel
theorem dX6_readMarked_92 : decode cX6_readMarked 92 = .ok (.iadd, 1) := by decide +kernel
theorem dX6_readMarked_93 : decode cX6_readMarked 93 = .ok (.putfield 156, 3) := by decide +kernel
theorem dX6_readMarked_96 : decode cX6_readMarked 96 = .ok (.aload_n 0, 1) := by decide +kernel
theorem dX6_readMarked_97 : decode cX6_readMarked 97 = .ok (.getfield 124, 3) := by decide +kernel
theorem dX6_readMarked_100 : decode cX6_readMarked 100 = .ok (.ifCond .ne 7, 3) := by decide +kernel
theorem dX6_readMarked_103 : decode cX6_readMarked 103 = .ok (.aload_n 0, 1) := by decide +kernel
theorem dX6_readMarked_104 : decode cX6_readMarked 104 = .ok (.invokevirtual 133, 3) := by decide +kernel
theorem dX6_readMarked_107 : decode cX6_readMarked 107 = .ok (.aload_n 0, 1) := by decide +kernel
theorem dX6_readMarked_108 : decode cX6_readMarked 108 = .ok (.getfield 124, 3) := by decide +kernel
theorem dX6_readMarked_111 : decode cX6_readMarked 111 = .ok (.ifCond .ne 18, 3) := by decide +kernel
theorem dX6_readMarked_114 : decode cX6_readMarked 114 = .ok (.aload_n 0, 1) := by decide +kernel
theorem dX6_readMarked_115 : decode cX6_readMarked 115 = .ok (.invokevirtual 140, 3) := by decide +kernel
theorem dX6_readMarked_118 : decode cX6_readMarked 118 = .ok (.ifCond .ne 11, 3) := by decide +kernel
theorem dX6_readMarked_121 : decode cX6_readMarked 121 = .ok (.aload_n 0, 1) := by decide +kernel
theorem dX6_readMarked_122 : decode cX6_readMarked 122 = .ok (.iconst 1, 1) := by decide +kernel
theorem dX6_readMarked_123 : decode cX6_readMarked 123 = .ok (.invokevirtual 136, 3) := by decide +kernel
theorem dX6_readMarked_126 : decode cX6_readMarked 126 = .ok (.goto 24, 3) := by decide +kernel
theorem dX6_readMarked_129 : decode cX6_readMarked 129 = .ok (.aload_n 0, 1) := by decide +kernel
theorem dX6_readMarked_130 : decode cX6_readMarked 130 = .ok (.getfield 124, 3) := by decide +kernel
theorem dX6_readMarked_133 : decode cX6_readMarked 133 = .ok (.ifCond .ne 17, 3) := by decide +kernel
theorem dX6_readMarked_136 : decode cX6_readMarked 136 = .ok (.aload_n 0, 1) := by decide +kernel
theorem dX6_readMarked_137 : decode cX6_readMarked 137 = .ok (.getfield 144, 3) := by decide +kernel
theorem dX6_readMarked_140 : decode cX6_readMarked 140 = .ok (.bipush 100, 2) := by decide +kernel
theorem dX6_readMarked_142 : decode cX6_readMarked 142 = .ok (.if_icmp .ne 8, 3) := by decide +kernel
theorem dX6_readMarked_145 : decode cX6_readMarked 145 = .ok (.aload_n 0, 1) := by decide +kernel
theorem dX6_readMarked_146 : decode cX6_readMarked 146 = .ok (.iconst 2, 1) := by decide +kernel
theorem dX6_readMarked_147 : decode cX6_readMarked 147 = .ok (.invokevirtual 136, 3) := by decide +kernel
theorem dX6_readMarked_150 : decode cX6_readMarked 150 = .ok (.aload_n 0, 1) := by decide +kernel
theorem dX6_readMarked_151 : decode cX6_readMarked 151 = .ok (.getfield 124, 3) := by decide +kernel
theorem dX6_readMarked_154 : decode cX6_readMarked 154 = .ok (.ifCond .eq 4, 3) := by decide +kernel
theorem dX6_readMarked_157 : decode cX6_readMarked 157 = .ok (.return_, 1) := by decide +kernel
theorem dX6_readMarked_158 : decode cX6_readMarked 158 = .ok (.aload_n 0, 1) := by decide +kernel
theorem dX6_readMarked_159 : decode cX6_readMarked 159 = .ok (.getfield 144, 3) := by decide +kernel
theorem dX6_readMarked_162 : decode cX6_readMarked 162 = .ok (.istore 4, 2) := by decide +kernel
theorem dX6_readMarked_164 : decode cX6_readMarked 164 = .ok (.aload_n 0, 1) := by decide +kernel
theorem dX6_readMarked_165 : decode cX6_readMarked 165 = .ok (.getfield 20, 3) := by decide +kernel
theorem dX6_readMarked_168 : decode cX6_readMarked 168 = .ok (.iload 4, 2) := by decide +kernel
theorem dX6_readMarked_170 : decode cX6_readMarked 170 = .ok (.iconst 0, 1) := by decide +kernel
theorem dX6_readMarked_171 : decode cX6_readMarked 171 = .ok (.iastore, 1) := by decide +kernel
theorem dX6_readMarked_172 : decode cX6_readMarked 172 = .ok (.aload_n 0, 1) := by decide +kernel
theorem dX6_readMarked_173 : decode cX6_readMarked 173 = .ok (.getfield 38, 3) := by decide +kernel
theorem dX6_readMarked_176 : decode cX6_readMarked 176 = .ok (.iload 4, 2) := by decide +kernel
theorem dX6_readMarked_178 : decode cX6_readMarked 178 = .ok (.iconst (-1), 1) := by decide +kernel
theorem dX6_readMarked_179 : decode cX6_readMarked 179 = .ok (.iastore, 1) := by decide +kernel
theorem dX6_readMarked_180 : decode cX6_readMarked 180 = .ok (.aload_n 0, 1) := by decide +kernel
theorem dX6_readMarked_181 : decode cX6_readMarked 181 = .ok (.getfield 41, 3) := by decide +kernel
theorem dX6_readMarked_184 : decode cX6_readMarked 184 = .ok (.iload 4, 2) := by decide +kernel
theorem dX6_readMarked_186 : decode cX6_readMarked 186 = .ok (.iload_n 2, 1) := by decide +kernel
theorem dX6_readMarked_187 : decode cX6_readMarked 187 = .ok (.bastore, 1) := by decide +kernel
theorem dX6_readMarked_188 : decode cX6_readMarked 188 = .ok (.aload_n 0, 1) := by decide +kernel
theorem dX6_readMarked_189 : decode cX6_readMarked 189 = .ok (.getfield 45, 3) := by decide +kernel
theorem dX6_readMarked_192 : decode cX6_readMarked 192 = .ok (.iload 4, 2) := by decide +kernel
theorem dX6_readMarked_194 : decode cX6_readMarked 194 = .ok (.iload_n 3, 1) := by decide +kernel
theorem dX6_readMarked_195 : decode cX6_readMarked 195 = .ok (.bastore, 1) := by decide +kernel
theorem dX6_readMarked_196 : decode cX6_readMarked 196 = .ok (.aload_n 0, 1) := by decide +kernel
theorem dX6_readMarked_197 : decode cX6_readMarked 197 = .ok (.getfield 32, 3) := by decide +kernel
theorem dX6_readMarked_200 : decode cX6_readMarked 200 = .ok (.iload 4, 2) := by decide +kernel
theorem dX6_readMarked_202 : decode cX6_readMarked 202 = .ok (.aload_n 0, 1) := by decide +kernel
theorem dX6_readMarked_203 : decode cX6_readMarked 203 = .ok (.getfield 147, 3) := by decide +kernel
theorem dX6_readMarked_206 : decode cX6_readMarked 206 = .ok (.iastore, 1) := by decide +kernel
theorem dX6_readMarked_207 : decode cX6_readMarked 207 = .ok (.aload_n 0, 1) := by decide +kernel
theorem dX6_readMarked_208 : decode cX6_readMarked 208 = .ok (.getfield 35, 3) := by decide +kernel
theorem dX6_readMarked_211 : decode cX6_readMarked 211 = .ok (.iload 4, 2) := by decide +kernel
theorem dX6_readMarked_213 : decode cX6_readMarked 213 = .ok (.iload_n 1, 1) := by decide +kernel
theorem dX6_readMarked_214 : decode cX6_readMarked 214 = .ok (.iastore, 1) := by decide +kernel
theorem dX6_readMarked_215 : decode cX6_readMarked 215 = .ok (.aload_n 0, 1) := by decide +kernel
theorem dX6_readMarked_216 : decode cX6_readMarked 216 = .ok (.getfield 26, 3) := by decide +kernel
theorem dX6_readMarked_219 : decode cX6_readMarked 219 = .ok (.iload 4, 2) := by decide +kernel
theorem dX6_readMarked_221 : decode cX6_readMarked 221 = .ok (.aload_n 0, 1) := by decide +kernel
theorem dX6_readMarked_222 : decode cX6_readMarked 222 = .ok (.getfield 153, 3) := by decide +kernel
theorem dX6_readMarked_225 : decode cX6_readMarked 225 = .ok (.iastore, 1) := by decide +kernel
theorem dX6_readMarked_226 : decode cX6_readMarked 226 = .ok (.aload_n 0, 1) := by decide +kernel
theorem dX6_readMarked_227 : decode cX6_readMarked 227 = .ok (.bipush 40, 2) := by decide +kernel
theorem dX6_readMarked_229 : decode cX6_readMarked 229 = .ok (.invokevirtual 130, 3) := by decide +kernel
theorem dX6_readMarked_232 : decode cX6_readMarked 232 = .ok (.ifCond .eq 61, 3) := by decide +kernel
theorem dX6_readMarked_235 : decode cX6_readMarked 235 = .ok (.aload_n 0, 1) := by decide +kernel
theorem dX6_readMarked_236 : decode cX6_readMarked 236 = .ok (.getfield 17, 3) := by decide +kernel
theorem dX6_readMarked_239 : decode cX6_readMarked 239 = .ok (.iload 4, 2) := by decide +kernel
theorem dX6_readMarked_241 : decode cX6_readMarked 241 = .ok (.iconst 1, 1) := by decide +kernel
theorem dX6_readMarked_242 : decode cX6_readMarked 242 = .ok (.iastore, 1) := by decide +kernel
theorem dX6_readMarked_243 : decode cX6_readMarked 243 = .ok (.aload_n 0, 1) := by decide +kernel
theorem dX6_readMarked_244 : decode cX6_readMarked 244 = .ok (.invokevirtual 133, 3) := by decide +kernel
theorem dX6_readMarked_247 : decode cX6_readMarked 247 = .ok (.aload_n 0, 1) := by decide +kernel
theorem dX6_readMarked_248 : decode cX6_readMarked 248 = .ok (.getfield 102, 3) := by decide +kernel
theorem dX6_readMarked_251 : decode cX6_readMarked 251 = .ok (.iconst 1, 1) := by decide +kernel
theorem dX6_readMarked_252 : decode cX6_readMarked 252 = .ok (.if_icmp .eq 8, 3) := by decide +kernel
theorem dX6_readMarked_255 : decode cX6_readMarked 255 = .ok (.aload_n 0, 1) := by decide +kernel
theorem dX6_readMarked_256 : decode cX6_readMarked 256 = .ok (.iconst 1, 1) := by decide +kernel
theorem dX6_readMarked_257 : decode cX6_readMarked 257 = .ok (.invokevirtual 136, 3) := by decide +kernel
theorem dX6_readMarked_260 : decode cX6_readMarked 260 = .ok (.aload_n 0, 1) := by decide +kernel
theorem dX6_readMarked_261 : decode cX6_readMarked 261 = .ok (.getfield 124, 3) := by decide +kernel
theorem dX6_readMarked_264 : decode cX6_readMarked 264 = .ok (.ifCond .ne 20, 3) := by decide +kernel
theorem dX6_readMarked_267 : decode cX6_readMarked 267 = .ok (.aload_n 0, 1) := by decide +kernel
theorem dX6_readMarked_268 : decode cX6_readMarked 268 = .ok (.getfield 102, 3) := by decide +kernel
theorem dX6_readMarked_271 : decode cX6_readMarked 271 = .ok (.iconst 1, 1) := by decide +kernel
theorem dX6_readMarked_272 : decode cX6_readMarked 272 = .ok (.if_icmp .ne 12, 3) := by decide +kernel
theorem dX6_readMarked_275 : decode cX6_readMarked 275 = .ok (.aload_n 0, 1) := by decide +kernel
theorem dX6_readMarked_276 : decode cX6_readMarked 276 = .ok (.iload 4, 2) := by decide +kernel
theorem dX6_readMarked_278 : decode cX6_readMarked 278 = .ok (.invokevirtual 174, 3) := by decide +kernel
theorem dX6_readMarked_281 : decode cX6_readMarked 281 = .ok (.goto (-21), 3) := by decide +kernel
theorem dX6_readMarked_284 : decode cX6_readMarked 284 = .ok (.aload_n 0, 1) := by decide +kernel
theorem dX6_readMarked_285 : decode cX6_readMarked 285 = .ok (.bipush 41, 2) := by decide +kernel
theorem dX6_readMarked_287 : decode cX6_readMarked 287 = .ok (.invokevirtual 177, 3) := by decide +kernel
theorem dX6_readMarked_290 : decode cX6_readMarked 290 = .ok (.goto 83, 3) := by decide +kernel
theorem dX6_readMarked_293 : decode cX6_readMarked 293 = .ok (.aload_n 0, 1) := by decide +kernel
theorem dX6_readMarked_294 : decode cX6_readMarked 294 = .ok (.bipush 114, 2) := by decide +kernel
theorem dX6_readMarked_296 : decode cX6_readMarked 296 = .ok (.invokevirtual 130, 3) := by decide +kernel
theorem dX6_readMarked_299 : decode cX6_readMarked 299 = .ok (.ifCond .eq 18, 3) := by decide +kernel
theorem dX6_readMarked_302 : decode cX6_readMarked 302 = .ok (.aload_n 0, 1) := by decide +kernel
theorem dX6_readMarked_303 : decode cX6_readMarked 303 = .ok (.getfield 17, 3) := by decide +kernel
theorem dX6_readMarked_306 : decode cX6_readMarked 306 = .ok (.iload 4, 2) := by decide +kernel
theorem dX6_readMarked_308 : decode cX6_readMarked 308 = .ok (.iconst 3, 1) := by decide +kernel
theorem dX6_readMarked_309 : decode cX6_readMarked 309 = .ok (.iastore, 1) := by decide +kernel
theorem dX6_readMarked_310 : decode cX6_readMarked 310 = .ok (.aload_n 0, 1) := by decide +kernel
theorem dX6_readMarked_311 : decode cX6_readMarked 311 = .ok (.invokevirtual 133, 3) := by decide +kernel
theorem dX6_readMarked_314 : decode cX6_readMarked 314 = .ok (.goto 59, 3) := by decide +kernel
theorem dX6_readMarked_317 : decode cX6_readMarked 317 = .ok (.aload_n 0, 1) := by decide +kernel
theorem dX6_readMarked_318 : decode cX6_readMarked 318 = .ok (.getfield 17, 3) := by decide +kernel
theorem dX6_readMarked_321 : decode cX6_readMarked 321 = .ok (.iload 4, 2) := by decide +kernel
theorem dX6_readMarked_323 : decode cX6_readMarked 323 = .ok (.aload_n 0, 1) := by decide +kernel
theorem dX6_readMarked_324 : decode cX6_readMarked 324 = .ok (.bipush 126, 2) := by decide +kernel
theorem dX6_readMarked_326 : decode cX6_readMarked 326 = .ok (.invokevirtual 130, 3) := by decide +kernel
theorem dX6_readMarked_329 : decode cX6_readMarked 329 = .ok (.ifCond .eq 7, 3) := by decide +kernel
theorem dX6_readMarked_332 : decode cX6_readMarked 332 = .ok (.iconst 2, 1) := by decide +kernel
theorem dX6_readMarked_333 : decode cX6_readMarked 333 = .ok (.goto 4, 3) := by decide +kernel
theorem dX6_readMarked_336 : decode cX6_readMarked 336 = .ok (.iconst 0, 1) := by decide +kernel
theorem dX6_readMarked_337 : decode cX6_readMarked 337 = .ok (.iastore, 1) := by decide +kernel
theorem dX6_readMarked_338 : decode cX6_readMarked 338 = .ok (.aload_n 0, 1) := by decide +kernel
theorem dX6_readMarked_339 : decode cX6_readMarked 339 = .ok (.bipush 126, 2) := by decide +kernel
theorem dX6_readMarked_341 : decode cX6_readMarked 341 = .ok (.invokevirtual 130, 3) := by decide +kernel
theorem dX6_readMarked_344 : decode cX6_readMarked 344 = .ok (.ifCond .eq 7, 3) := by decide +kernel
theorem dX6_readMarked_347 : decode cX6_readMarked 347 = .ok (.aload_n 0, 1) := by decide +kernel
theorem dX6_readMarked_348 : decode cX6_readMarked 348 = .ok (.invokevirtual 133, 3) := by decide +kernel
theorem dX6_readMarked_351 : decode cX6_readMarked 351 = .ok (.aload_n 0, 1) := by decide +kernel
theorem dX6_readMarked_352 : decode cX6_readMarked 352 = .ok (.getfield 102, 3) := by decide +kernel
theorem dX6_readMarked_355 : decode cX6_readMarked 355 = .ok (.iconst 1, 1) := by decide +kernel
theorem dX6_readMarked_356 : decode cX6_readMarked 356 = .ok (.if_icmp .eq 11, 3) := by decide +kernel
theorem dX6_readMarked_359 : decode cX6_readMarked 359 = .ok (.aload_n 0, 1) := by decide +kernel
theorem dX6_readMarked_360 : decode cX6_readMarked 360 = .ok (.iconst 1, 1) := by decide +kernel
theorem dX6_readMarked_361 : decode cX6_readMarked 361 = .ok (.invokevirtual 136, 3) := by decide +kernel
theorem dX6_readMarked_364 : decode cX6_readMarked 364 = .ok (.goto 9, 3) := by decide +kernel
theorem dX6_readMarked_367 : decode cX6_readMarked 367 = .ok (.aload_n 0, 1) := by decide +kernel
theorem dX6_readMarked_368 : decode cX6_readMarked 368 = .ok (.iload 4, 2) := by decide +kernel
theorem dX6_readMarked_370 : decode cX6_readMarked 370 = .ok (.invokevirtual 174, 3) := by decide +kernel
theorem dX6_readMarked_373 : decode cX6_readMarked 373 = .ok (.aload_n 0, 1) := by decide +kernel
theorem dX6_readMarked_374 : decode cX6_readMarked 374 = .ok (.bipush 58, 2) := by decide +kernel
theorem dX6_readMarked_376 : decode cX6_readMarked 376 = .ok (.invokevirtual 177, 3) := by decide +kernel
theorem dX6_readMarked_379 : decode cX6_readMarked 379 = .ok (.aload_n 0, 1) := by decide +kernel
theorem dX6_readMarked_380 : decode cX6_readMarked 380 = .ok (.getfield 124, 3) := by decide +kernel
theorem dX6_readMarked_383 : decode cX6_readMarked 383 = .ok (.ifCond .eq 4, 3) := by decide +kernel
theorem dX6_readMarked_386 : decode cX6_readMarked 386 = .ok (.return_, 1) := by decide +kernel
theorem dX6_readMarked_387 : decode cX6_readMarked 387 = .ok (.aload_n 0, 1) := by decide +kernel
theorem dX6_readMarked_388 : decode cX6_readMarked 388 = .ok (.getfield 102, 3) := by decide +kernel
theorem dX6_readMarked_391 : decode cX6_readMarked 391 = .ok (.iconst 2, 1) := by decide +kernel
theorem dX6_readMarked_392 : decode cX6_readMarked 392 = .ok (.if_icmp .eq 11, 3) := by decide +kernel
theorem dX6_readMarked_395 : decode cX6_readMarked 395 = .ok (.aload_n 0, 1) := by decide +kernel
theorem dX6_readMarked_396 : decode cX6_readMarked 396 = .ok (.iconst 1, 1) := by decide +kernel
theorem dX6_readMarked_397 : decode cX6_readMarked 397 = .ok (.invokevirtual 136, 3) := by decide +kernel
theorem dX6_readMarked_400 : decode cX6_readMarked 400 = .ok (.goto 28, 3) := by decide +kernel
theorem dX6_readMarked_403 : decode cX6_readMarked 403 = .ok (.aload_n 0, 1) := by decide +kernel
theorem dX6_readMarked_404 : decode cX6_readMarked 404 = .ok (.getfield 121, 3) := by decide +kernel
theorem dX6_readMarked_407 : decode cX6_readMarked 407 = .ok (.aload_n 0, 1) := by decide +kernel
theorem dX6_readMarked_408 : decode cX6_readMarked 408 = .ok (.getfield 96, 3) := by decide +kernel
theorem dX6_readMarked_411 : decode cX6_readMarked 411 = .ok (.isub, 1) := by decide +kernel
theorem dX6_readMarked_412 : decode cX6_readMarked 412 = .ok (.iconst 3, 1) := by decide +kernel
theorem dX6_readMarked_413 : decode cX6_readMarked 413 = .ok (.if_icmp .gt 10, 3) := by decide +kernel
theorem dX6_readMarked_416 : decode cX6_readMarked 416 = .ok (.aload_n 0, 1) := by decide +kernel
theorem dX6_readMarked_417 : decode cX6_readMarked 417 = .ok (.getfield 109, 3) := by decide +kernel
theorem dX6_readMarked_420 : decode cX6_readMarked 420 = .ok (.ifCond .ne 8, 3) := by decide +kernel
theorem dX6_readMarked_423 : decode cX6_readMarked 423 = .ok (.aload_n 0, 1) := by decide +kernel
theorem dX6_readMarked_424 : decode cX6_readMarked 424 = .ok (.iconst 2, 1) := by decide +kernel
theorem dX6_readMarked_425 : decode cX6_readMarked 425 = .ok (.invokevirtual 136, 3) := by decide +kernel
theorem dX6_readMarked_428 : decode cX6_readMarked 428 = .ok (.aload_n 0, 1) := by decide +kernel
theorem dX6_readMarked_429 : decode cX6_readMarked 429 = .ok (.getfield 124, 3) := by decide +kernel
theorem dX6_readMarked_432 : decode cX6_readMarked 432 = .ok (.ifCond .eq 4, 3) := by decide +kernel
theorem dX6_readMarked_435 : decode cX6_readMarked 435 = .ok (.return_, 1) := by decide +kernel
theorem dX6_readMarked_436 : decode cX6_readMarked 436 = .ok (.aload_n 0, 1) := by decide +kernel
theorem dX6_readMarked_437 : decode cX6_readMarked 437 = .ok (.getfield 29, 3) := by decide +kernel
theorem dX6_readMarked_440 : decode cX6_readMarked 440 = .ok (.iload 4, 2) := by decide +kernel
theorem dX6_readMarked_442 : decode cX6_readMarked 442 = .ok (.aload_n 0, 1) := by decide +kernel
theorem dX6_readMarked_443 : decode cX6_readMarked 443 = .ok (.getfield 109, 3) := by decide +kernel
theorem dX6_readMarked_446 : decode cX6_readMarked 446 = .ok (.iastore, 1) := by decide +kernel
theorem dX6_readMarked_447 : decode cX6_readMarked 447 = .ok (.aload_n 0, 1) := by decide +kernel
theorem dX6_readMarked_448 : decode cX6_readMarked 448 = .ok (.dup, 1) := by decide +kernel
theorem dX6_readMarked_449 : decode cX6_readMarked 449 = .ok (.getfield 153, 3) := by decide +kernel
theorem dX6_readMarked_452 : decode cX6_readMarked 452 = .ok (.aload_n 0, 1) := by decide +kernel
theorem dX6_readMarked_453 : decode cX6_readMarked 453 = .ok (.getfield 109, 3) := by decide +kernel
theorem dX6_readMarked_456 : decode cX6_readMarked 456 = .ok (.iadd, 1) := by decide +kernel
theorem dX6_readMarked_457 : decode cX6_readMarked 457 = .ok (.putfield 153, 3) := by decide +kernel
theorem dX6_readMarked_460 : decode cX6_readMarked 460 = .ok (.aload_n 0, 1) := by decide +kernel
theorem dX6_readMarked_461 : decode cX6_readMarked 461 = .ok (.dup, 1) := by decide +kernel
theorem dX6_readMarked_462 : decode cX6_readMarked 462 = .ok (.getfield 144, 3) := by decide +kernel
theorem dX6_readMarked_465 : decode cX6_readMarked 465 = .ok (.iconst 1, 1) := by decide +kernel
theorem dX6_readMarked_466 : decode cX6_readMarked 466 = .ok (.iadd, 1) := by decide +kernel
theorem dX6_readMarked_467 : decode cX6_readMarked 467 = .ok (.putfield 144, 3) := by decide +kernel
theorem dX6_readMarked_470 : decode cX6_readMarked 470 = .ok (.aload_n 0, 1) := by decide +kernel
theorem dX6_readMarked_471 : decode cX6_readMarked 471 = .ok (.invokevirtual 133, 3) := by decide +kernel
theorem dX6_readMarked_474 : decode cX6_readMarked 474 = .ok (.return_, 1) := by decide +kernel
set_option maxRecDepth 20000 in
theorem ggX6_readPitch_X6_wrong : GoodIn wsX6_readPitch wsX6_wrong := goodIn_r _ [9, 4, 10, 11, 36, 37, 38, 39, 40, 41, 42, 43, 44, 45, 46, 47, 48, 49, 50, 51, 52, 53, 54, 55, 56, 57, 58, 59, 60, 61, 62, 63, 64, 65, 66, 67, 68, 69, 70, 71, 72, 73, 74, 75, 76, 77, 78, 79, 80] rfl (by decide +kernel)
set_option maxRecDepth 20000 in
theorem gX6_readPitch_X6_wrong : GoodIn wsX6_readPitch (wsV RX6 136 RX6 yX6_wrong wsX6_wrong) := goodIn_app (goodIn_of _ (by decide +kernel)) ggX6_readPitch_X6_wrong
set_option maxRecDepth 20000 in
theorem ggX6_readPitch_X6_next : GoodIn wsX6_readPitch wsX6_next := goodIn_r _ [15, 16, 10, 17, 18, 3, 19, 20, 21, 22, 23, 24, 25, 26, 8, 27, 28, 29, 30, 31, 32, 33, 34, 35, 36, 37, 38, 39, 40, 41, 42, 43, 44, 45, 46, 47, 48, 49, 50, 51, 52, 53, 54, 55, 56, 57, 58, 59, 60, 61, 62, 63, 64, 65, 66, 67, 68, 69, 70, 71, 72, 73, 74, 75, 76, 77, 78, 79, 80] rfl (by decide +kernel)
set_option maxRecDepth 20000 in
theorem gX6_readPitch_X6_next : GoodIn wsX6_readPitch (wsV RX6 133 RX6 yX6_next wsX6_next) := goodIn_app (goodIn_of _ (by decide +kernel)) ggX6_readPitch_X6_next
theorem dX6_readPitch_0 : decode cX6_readPitch 0 = .ok (.aload_n 0, 1) := by decide +kernel
theorem dX6_readPitch_1 : decode cX6_readPitch 1 = .ok (.getfield 20, 3) := by decide +kernel
theorem dX6_readPitch_4 : decode cX6_readPitch 4 = .ok (.iload_n 1, 1) := by decide +kernel
theorem dX6_readPitch_5 : decode cX6_readPitch 5 = .ok (.iaload, 1) := by decide +kernel
theorem dX6_readPitch_6 : decode cX6_readPitch 6 = .ok (.iconst 4, 1) := by decide +kernel
theorem dX6_readPitch_7 : decode cX6_readPitch 7 = .ok (.if_icmp .ne 9, 3) := by decide +kernel
theorem dX6_readPitch_10 : decode cX6_readPitch 10 = .ok (.aload_n 0, 1) := by decide +kernel
theorem dX6_readPitch_11 : decode cX6_readPitch 11 = .ok (.iconst 2, 1) := by decide +kernel
theorem dX6_readPitch_12 : decode cX6_readPitch 12 = .ok (.invokevirtual 136, 3) := by decide +kernel
theorem dX6_readPitch_15 : decode cX6_readPitch 15 = .ok (.return_, 1) := by decide +kernel
theorem dX6_readPitch_16 : decode cX6_readPitch 16 = .ok (.iconst 0, 1) := by decide +kernel
theorem dX6_readPitch_17 : decode cX6_readPitch 17 = .ok (.istore_n 2, 1) := by decide +kernel
theorem dX6_readPitch_18 : decode cX6_readPitch 18 = .ok (.iload_n 2, 1) := by decide +kernel
theorem dX6_readPitch_19 : decode cX6_readPitch 19 = .ok (.aload_n 0, 1) := by decide +kernel
theorem dX6_readPitch_20 : decode cX6_readPitch 20 = .ok (.getfield 20, 3) := by decide +kernel
theorem dX6_readPitch_23 : decode cX6_readPitch 23 = .ok (.iload_n 1, 1) := by decide +kernel
theorem dX6_readPitch_24 : decode cX6_readPitch 24 = .ok (.iaload, 1) := by decide +kernel
theorem dX6_readPitch_25 : decode cX6_readPitch 25 = .ok (.if_icmp .ge 31, 3) := by decide +kernel
theorem dX6_readPitch_28 : decode cX6_readPitch 28 = .ok (.aload_n 0, 1) := by decide +kernel
theorem dX6_readPitch_29 : decode cX6_readPitch 29 = .ok (.getfield 23, 3) := by decide +kernel
theorem dX6_readPitch_32 : decode cX6_readPitch 32 = .ok (.iconst 4, 1) := by decide +kernel
theorem dX6_readPitch_33 : decode cX6_readPitch 33 = .ok (.iload_n 1, 1) := by decide +kernel
theorem dX6_readPitch_34 : decode cX6_readPitch 34 = .ok (.imul, 1) := by decide +kernel
theorem dX6_readPitch_35 : decode cX6_readPitch 35 = .ok (.iload_n 2, 1) := by decide +kernel
theorem dX6_readPitch_36 : decode cX6_readPitch 36 = .ok (.iadd, 1) := by decide +kernel
theorem dX6_readPitch_37 : decode cX6_readPitch 37 = .ok (.iaload, 1) := by decide +kernel
theorem dX6_readPitch_38 : decode cX6_readPitch 38 = .ok (.aload_n 0, 1) := by decide +kernel
theorem dX6_readPitch_39 : decode cX6_readPitch 39 = .ok (.getfield 109, 3) := by decide +kernel
theorem dX6_readPitch_42 : decode cX6_readPitch 42 = .ok (.if_icmp .ne 8, 3) := by decide +kernel
theorem dX6_readPitch_45 : decode cX6_readPitch 45 = .ok (.aload_n 0, 1) := by decide +kernel
theorem dX6_readPitch_46 : decode cX6_readPitch 46 = .ok (.iconst 3, 1) := by decide +kernel
theorem dX6_readPitch_47 : decode cX6_readPitch 47 = .ok (.invokevirtual 136, 3) := by decide +kernel
theorem dX6_readPitch_50 : decode cX6_readPitch 50 = .ok (.iinc 2 1, 3) := by decide +kernel
theorem dX6_readPitch_53 : decode cX6_readPitch 53 = .ok (.goto (-35), 3) := by decide +kernel
theorem dX6_readPitch_56 : decode cX6_readPitch 56 = .ok (.aload_n 0, 1) := by decide +kernel
theorem dX6_readPitch_57 : decode cX6_readPitch 57 = .ok (.getfield 124, 3) := by decide +kernel
theorem dX6_readPitch_60 : decode cX6_readPitch 60 = .ok (.ifCond .eq 4, 3) := by decide +kernel
theorem dX6_readPitch_63 : decode cX6_readPitch 63 = .ok (.return_, 1) := by decide +kernel
theorem dX6_readPitch_64 : decode cX6_readPitch 64 = .ok (.aload_n 0, 1) := by decide +kernel
theorem dX6_readPitch_65 : decode cX6_readPitch 65 = .ok (.getfield 23, 3) := by decide +kernel
theorem dX6_readPitch_68 : decode cX6_readPitch 68 = .ok (.iconst 4, 1) := by decide +kernel
theorem dX6_readPitch_69 : decode cX6_readPitch 69 = .ok (.iload_n 1, 1) := by decide +kernel
theorem dX6_readPitch_70 : decode cX6_readPitch 70 = .ok (.imul, 1) := by decide +kernel
theorem dX6_readPitch_71 : decode cX6_readPitch 71 = .ok (.aload_n 0, 1) := by decide +kernel
theorem dX6_readPitch_72 : decode cX6_readPitch 72 = .ok (.getfield 20, 3) := by decide +kernel
theorem dX6_readPitch_75 : decode cX6_readPitch 75 = .ok (.iload_n 1, 1) := by decide +kernel
theorem dX6_readPitch_76 : decode cX6_readPitch 76 = .ok (.iaload, 1) := by decide +kernel
theorem dX6_readPitch_77 : decode cX6_readPitch 77 = .ok (.iadd, 1) := by decide +kernel
theorem dX6_readPitch_78 : decode cX6_readPitch 78 = .ok (.aload_n 0, 1) := by decide +kernel
theorem dX6_readPitch_79 : decode cX6_readPitch 79 = .ok (.getfield 109, 3) := by decide +kernel
theorem dX6_readPitch_82 : decode cX6_readPitch 82 = .ok (.iastore, 1) := by decide +kernel
theorem dX6_readPitch_83 : decode cX6_readPitch 83 = .ok (.aload_n 0, 1) := by decide +kernel
theorem dX6_readPitch_84 : decode cX6_readPitch 84 = .ok (.getfield 20, 3) := by decide +kernel
theorem dX6_readPitch_87 : decode cX6_readPitch 87 = .ok (.iload_n 1, 1) := by decide +kernel
theorem dX6_readPitch_88 : decode cX6_readPitch 88 = .ok (.dup2, 1) := by decide +kernel
theorem dX6_readPitch_89 : decode cX6_readPitch 89 = .ok (.iaload, 1) := by decide +kernel
theorem dX6_readPitch_90 : decode cX6_readPitch 90 = .ok (.iconst 1, 1) := by decide +kernel
theorem dX6_readPitch_91 : decode cX6_readPitch 91 = .ok (.iadd, 1) := by decide +kernel
theorem dX6_readPitch_92 : decode cX6_readPitch 92 = .ok (.iastore, 1) := by decide +kernel
theorem dX6_readPitch_93 : decode cX6_readPitch 93 = .ok (.aload_n 0, 1) := by decide +kernel
theorem dX6_readPitch_94 : decode cX6_readPitch 94 = .ok (.invokevirtual 133, 3) := by decide +kernel
theorem dX6_readPitch_97 : decode cX6_readPitch 97 = .ok (.return_, 1) := by decide +kernel
set_option maxRecDepth 20000 in
theorem ggX6_music_X6_fail : GoodIn wsX6_music wsX6_fail := goodIn_r _ [15, 1, 100, 101, 102, 103, 104, 105, 106, 107, 108, 109, 110, 111, 112, 113, 114, 115, 116, 117, 118, 119, 120, 121, 122, 123, 124, 125, 126, 127, 128, 129, 130, 131, 132, 133, 134, 135, 136, 137, 138, 139, 140, 141, 142, 143, 144] rfl (by decide +kernel)
set_option maxRecDepth 20000 in
theorem gX6_music_X6_fail : GoodIn wsX6_music (wsV RX6 180 RX6 yX6_fail wsX6_fail) := goodIn_app (goodIn_of _ (by decide +kernel)) ggX6_music_X6_fail
set_option maxRecDepth 20000 in
theorem ggX6_music_X6_readAll : GoodIn wsX6_music wsX6_readAll := goodIn_r _ [19, 20, 21, 22, 23, 24, 25, 26, 4, 27, 28, 29, 30, 31, 32, 33, 14, 34, 35, 36, 37, 38, 39, 40, 41, 42, 43, 44, 45, 46, 3, 9, 47, 48, 49, 50, 51, 52, 53, 54, 55, 56, 57, 58, 59, 60, 61, 62, 63, 64, 65, 66, 67, 68, 6, 69, 70, 71, 72, 73, 74, 75, 76, 77, 78, 79, 80, 81, 82, 83, 84, 85, 86, 87, 88, 89, 100, 101, 102, 103, 104, 105, 106, 107, 108, 109, 110, 111, 112, 113, 114, 115, 116, 117, 118, 119, 120, 121, 122, 123, 124, 125, 126, 127, 128, 129, 130, 131, 132, 133, 134, 135, 136, 137, 138, 139, 140, 141, 142, 143, 144] rfl (by decide +kernel)
set_option maxRecDepth 20000 in
theorem gX6_music_X6_readAll : GoodIn wsX6_music (wsV RX6 184 RX6 yX6_readAll wsX6_readAll) := goodIn_app (goodIn_of _ (by decide +kernel)) ggX6_music_X6_readAll
set_option maxRecDepth 20000 in
theorem ggX6_music_X6_begin : GoodIn wsX6_music wsX6_begin := goodIn_r _ [93, 94, 95, 96, 97, 98, 99, 100, 101, 102, 103, 104, 105, 106, 107, 108, 109, 110, 111, 112, 113, 114, 115, 116, 117, 118, 119, 120, 121, 122, 123, 124, 125, 126, 127, 128, 129, 130, 131, 132, 133, 134, 135, 136, 137, 138, 139, 140, 141, 142, 143, 144] rfl (by decide +kernel)
set_option maxRecDepth 20000 in
theorem gX6_music_X6_begin : GoodIn wsX6_music (wsV RX6 193 RX6 yX6_begin wsX6_begin) := goodIn_app (goodIn_of _ (by decide +kernel)) ggX6_music_X6_begin
theorem dX6_music_0 : decode cX6_music 0 = .ok (.aload_n 0, 1) := by decide +kernel
theorem dX6_music_1 : decode cX6_music 1 = .ok (.iconst 0, 1) := by decide +kernel
theorem dX6_music_2 : decode cX6_music 2 = .ok (.putfield 80, 3) := by decide +kernel
theorem dX6_music_5 : decode cX6_music 5 = .ok (.iload_n 1, 1) := by decide +kernel
theorem dX6_music_6 : decode cX6_music 6 = .ok (.ifCond .lt 11, 3) := by decide +kernel
theorem dX6_music_9 : decode cX6_music 9 = .ok (.iload_n 1, 1) := by decide +kernel
theorem dX6_music_10 : decode cX6_music 10 = .ok (.aload_n 0, 1) := by decide +kernel
theorem dX6_music_11 : decode cX6_music 11 = .ok (.getfield 83, 3) := by decide +kernel
theorem dX6_music_14 : decode cX6_music 14 = .ok (.if_icmp .le 8, 3) := by decide +kernel
theorem dX6_music_17 : decode cX6_music 17 = .ok (.aload_n 0, 1) := by decide +kernel
theorem dX6_music_18 : decode cX6_music 18 = .ok (.invokevirtual 180, 3) := by decide +kernel
theorem dX6_music_21 : decode cX6_music 21 = .ok (.ireturn, 1) := by decide +kernel
theorem dX6_music_22 : decode cX6_music 22 = .ok (.aload_n 0, 1) := by decide +kernel
theorem dX6_music_23 : decode cX6_music 23 = .ok (.iconst 0, 1) := by decide +kernel
theorem dX6_music_24 : decode cX6_music 24 = .ok (.putfield 83, 3) := by decide +kernel
theorem dX6_music_27 : decode cX6_music 27 = .ok (.aload_n 0, 1) := by decide +kernel
theorem dX6_music_28 : decode cX6_music 28 = .ok (.iload_n 1, 1) := by decide +kernel
theorem dX6_music_29 : decode cX6_music 29 = .ok (.putfield 86, 3) := by decide +kernel
theorem dX6_music_32 : decode cX6_music 32 = .ok (.aload_n 0, 1) := by decide +kernel
theorem dX6_music_33 : decode cX6_music 33 = .ok (.invokevirtual 184, 3) := by decide +kernel
theorem dX6_music_36 : decode cX6_music 36 = .ok (.aload_n 0, 1) := by decide +kernel
theorem dX6_music_37 : decode cX6_music 37 = .ok (.aload_n 0, 1) := by decide +kernel
theorem dX6_music_38 : decode cX6_music 38 = .ok (.getfield 124, 3) := by decide +kernel
theorem dX6_music_41 : decode cX6_music 41 = .ok (.putfield 187, 3) := by decide +kernel
theorem dX6_music_44 : decode cX6_music 44 = .ok (.aload_n 0, 1) := by decide +kernel
theorem dX6_music_45 : decode cX6_music 45 = .ok (.aload_n 0, 1) := by decide +kernel
theorem dX6_music_46 : decode cX6_music 46 = .ok (.getfield 124, 3) := by decide +kernel
theorem dX6_music_49 : decode cX6_music 49 = .ok (.ifCond .ne 7, 3) := by decide +kernel
theorem dX6_music_52 : decode cX6_music 52 = .ok (.iconst (-1), 1) := by decide +kernel
theorem dX6_music_53 : decode cX6_music 53 = .ok (.goto 7, 3) := by decide +kernel
theorem dX6_music_56 : decode cX6_music 56 = .ok (.aload_n 0, 1) := by decide +kernel
theorem dX6_music_57 : decode cX6_music 57 = .ok (.getfield 127, 3) := by decide +kernel
theorem dX6_music_60 : decode cX6_music 60 = .ok (.putfield 13, 3) := by decide +kernel
theorem dX6_music_63 : decode cX6_music 63 = .ok (.aload_n 0, 1) := by decide +kernel
theorem dX6_music_64 : decode cX6_music 64 = .ok (.getfield 124, 3) := by decide +kernel
theorem dX6_music_67 : decode cX6_music 67 = .ok (.ifCond .ne 39, 3) := by decide +kernel
theorem dX6_music_70 : decode cX6_music 70 = .ok (.iconst 0, 1) := by decide +kernel
theorem dX6_music_71 : decode cX6_music 71 = .ok (.istore_n 2, 1) := by decide +kernel
theorem dX6_music_72 : decode cX6_music 72 = .ok (.iload_n 2, 1) := by decide +kernel
theorem dX6_music_73 : decode cX6_music 73 = .ok (.iload_n 1, 1) := by decide +kernel
theorem dX6_music_74 : decode cX6_music 74 = .ok (.if_icmp .ge 21, 3) := by decide +kernel
theorem dX6_music_77 : decode cX6_music 77 = .ok (.aload_n 0, 1) := by decide +kernel
theorem dX6_music_78 : decode cX6_music 78 = .ok (.getfield 48, 3) := by decide +kernel
theorem dX6_music_81 : decode cX6_music 81 = .ok (.iload_n 2, 1) := by decide +kernel
theorem dX6_music_82 : decode cX6_music 82 = .ok (.aload_n 0, 1) := by decide +kernel
theorem dX6_music_83 : decode cX6_music 83 = .ok (.getfield 9, 3) := by decide +kernel
theorem dX6_music_86 : decode cX6_music 86 = .ok (.iload_n 2, 1) := by decide +kernel
theorem dX6_music_87 : decode cX6_music 87 = .ok (.iaload, 1) := by decide +kernel
theorem dX6_music_88 : decode cX6_music 88 = .ok (.iastore, 1) := by decide +kernel
theorem dX6_music_89 : decode cX6_music 89 = .ok (.iinc 2 1, 3) := by decide +kernel
theorem dX6_music_92 : decode cX6_music 92 = .ok (.goto (-20), 3) := by decide +kernel
theorem dX6_music_95 : decode cX6_music 95 = .ok (.aload_n 0, 1) := by decide +kernel
theorem dX6_music_96 : decode cX6_music 96 = .ok (.iload_n 1, 1) := by decide +kernel
theorem dX6_music_97 : decode cX6_music 97 = .ok (.putfield 190, 3) := by decide +kernel
theorem dX6_music_100 : decode cX6_music 100 = .ok (.aload_n 0, 1) := by decide +kernel
theorem dX6_music_101 : decode cX6_music 101 = .ok (.invokevirtual 193, 3) := by decide +kernel
theorem dX6_music_104 : decode cX6_music 104 = .ok (.iconst 0, 1) := by decide +kernel
theorem dX6_music_105 : decode cX6_music 105 = .ok (.ireturn, 1) := by decide +kernel
theorem dX6_music_106 : decode cX6_music 106 = .ok (.iconst 0, 1) := by decide +kernel
theorem dX6_music_107 : decode cX6_music 107 = .ok (.istore_n 2, 1) := by decide +kernel
theorem dX6_music_108 : decode cX6_music 108 = .ok (.iload_n 2, 1) := by decide +kernel
theorem dX6_music_109 : decode cX6_music 109 = .ok (.aload_n 0, 1) := by decide +kernel
theorem dX6_music_110 : decode cX6_music 110 = .ok (.getfield 190, 3) := by decide +kernel
theorem dX6_music_113 : decode cX6_music 113 = .ok (.if_icmp .ge 21, 3) := by decide +kernel
theorem dX6_music_116 : decode cX6_music 116 = .ok (.aload_n 0, 1) := by decide +kernel
theorem dX6_music_117 : decode cX6_music 117 = .ok (.getfield 9, 3) := by decide +kernel
theorem dX6_music_120 : decode cX6_music 120 = .ok (.iload_n 2, 1) := by decide +kernel
theorem dX6_music_121 : decode cX6_music 121 = .ok (.aload_n 0, 1) := by decide +kernel
theorem dX6_music_122 : decode cX6_music 122 = .ok (.getfield 48, 3) := by decide +kernel
theorem dX6_music_125 : decode cX6_music 125 = .ok (.iload_n 2, 1) := by decide +kernel
theorem dX6_music_126 : decode cX6_music 126 = .ok (.iaload, 1) := by decide +kernel
theorem dX6_music_127 : decode cX6_music 127 = .ok (.iastore, 1) := by decide +kernel
theorem dX6_music_128 : decode cX6_music 128 = .ok (.iinc 2 1, 3) := by decide +kernel
theorem dX6_music_131 : decode cX6_music 131 = .ok (.goto (-23), 3) := by decide +kernel
theorem dX6_music_134 : decode cX6_music 134 = .ok (.aload_n 0, 1) := by decide +kernel
theorem dX6_music_135 : decode cX6_music 135 = .ok (.aload_n 0, 1) := by decide +kernel
theorem dX6_music_136 : decode cX6_music 136 = .ok (.getfield 190, 3) := by decide +kernel
theorem dX6_music_139 : decode cX6_music 139 = .ok (.putfield 86, 3) := by decide +kernel
theorem dX6_music_142 : decode cX6_music 142 = .ok (.aload_n 0, 1) := by decide +kernel
theorem dX6_music_143 : decode cX6_music 143 = .ok (.invokevirtual 184, 3) := by decide +kernel
theorem dX6_music_146 : decode cX6_music 146 = .ok (.aload_n 0, 1) := by decide +kernel
theorem dX6_music_147 : decode cX6_music 147 = .ok (.getfield 187, 3) := by decide +kernel
theorem dX6_music_150 : decode cX6_music 150 = .ok (.ireturn, 1) := by decide +kernel
theorem dX6_begin_0 : decode cX6_begin 0 = .ok (.aload_n 0, 1) := by decide +kernel
theorem dX6_begin_1 : decode cX6_begin 1 = .ok (.iconst 0, 1) := by decide +kernel
theorem dX6_begin_2 : decode cX6_begin 2 = .ok (.putfield 196, 3) := by decide +kernel
theorem dX6_begin_5 : decode cX6_begin 5 = .ok (.aload_n 0, 1) := by decide +kernel
theorem dX6_begin_6 : decode cX6_begin 6 = .ok (.iconst 0, 1) := by decide +kernel
theorem dX6_begin_7 : decode cX6_begin 7 = .ok (.putfield 199, 3) := by decide +kernel
theorem dX6_begin_10 : decode cX6_begin 10 = .ok (.iconst 0, 1) := by decide +kernel
theorem dX6_begin_11 : decode cX6_begin 11 = .ok (.istore_n 1, 1) := by decide +kernel
theorem dX6_begin_12 : decode cX6_begin 12 = .ok (.iload_n 1, 1) := by decide +kernel
theorem dX6_begin_13 : decode cX6_begin 13 = .ok (.sipush 1600, 3) := by decide +kernel
theorem dX6_begin_16 : decode cX6_begin 16 = .ok (.if_icmp .ge 27, 3) := by decide +kernel
theorem dX6_begin_19 : decode cX6_begin 19 = .ok (.aload_n 0, 1) := by decide +kernel
theorem dX6_begin_20 : decode cX6_begin 20 = .ok (.getfield 62, 3) := by decide +kernel
theorem dX6_begin_23 : decode cX6_begin 23 = .ok (.iconst 0, 1) := by decide +kernel
theorem dX6_begin_24 : decode cX6_begin 24 = .ok (.aaload, 1) := by decide +kernel
theorem dX6_begin_25 : decode cX6_begin 25 = .ok (.iload_n 1, 1) := by decide +kernel
theorem dX6_begin_26 : decode cX6_begin 26 = .ok (.iload_n 1, 1) := by decide +kernel
theorem dX6_begin_27 : decode cX6_begin 27 = .ok (.ifCond .ne 7, 3) := by decide +kernel
theorem dX6_begin_30 : decode cX6_begin 30 = .ok (.iconst 0, 1) := by decide +kernel
theorem dX6_begin_31 : decode cX6_begin 31 = .ok (.goto 5, 3) := by decide +kernel
theorem dX6_begin_34 : decode cX6_begin 34 = .ok (.ldc 202, 2) := by decide +kernel
theorem dX6_begin_36 : decode cX6_begin 36 = .ok (.iastore, 1) := by decide +kernel
theorem dX6_begin_37 : decode cX6_begin 37 = .ok (.iinc 1 1, 3) := by decide +kernel
theorem dX6_begin_40 : decode cX6_begin 40 = .ok (.goto (-28), 3) := by decide +kernel
theorem dX6_begin_43 : decode cX6_begin 43 = .ok (.aload_n 0, 1) := by decide +kernel
theorem dX6_begin_44 : decode cX6_begin 44 = .ok (.getfield 54, 3) := by decide +kernel
theorem dX6_begin_47 : decode cX6_begin 47 = .ok (.iconst 0, 1) := by decide +kernel
theorem dX6_begin_48 : decode cX6_begin 48 = .ok (.iconst 0, 1) := by decide +kernel
theorem dX6_begin_49 : decode cX6_begin 49 = .ok (.iastore, 1) := by decide +kernel
theorem dX6_begin_50 : decode cX6_begin 50 = .ok (.aload_n 0, 1) := by decide +kernel
theorem dX6_begin_51 : decode cX6_begin 51 = .ok (.getfield 57, 3) := by decide +kernel
theorem dX6_begin_54 : decode cX6_begin 54 = .ok (.iconst 0, 1) := by decide +kernel
theorem dX6_begin_55 : decode cX6_begin 55 = .ok (.iconst 0, 1) := by decide +kernel
theorem dX6_begin_56 : decode cX6_begin 56 = .ok (.iastore, 1) := by decide +kernel
theorem dX6_begin_57 : decode cX6_begin 57 = .ok (.return_, 1) := by decide +kernel
set_option maxRecDepth 20000 in
theorem ggX6_fault_X6_fail : GoodIn wsX6_fault wsX6_fail := goodIn_r _ [8, 1, 9, 10, 11, 12, 13, 14, 15, 16, 17, 18, 19, 20, 21, 22, 23, 24, 25, 26, 27, 28, 29, 30, 31, 32, 33, 34, 35, 36, 37, 38, 39, 40, 41, 42, 43, 44, 45, 46, 47, 48, 49, 50, 51, 52, 53] rfl (by decide +kernel)
set_option maxRecDepth 20000 in
theorem gX6_fault_X6_fail : GoodIn wsX6_fault (wsV RX6 180 RX6 yX6_fail wsX6_fail) := goodIn_app (goodIn_of _ (by decide +kernel)) ggX6_fault_X6_fail
theorem dX6_fault_0 : decode cX6_fault 0 = .ok (.aload_n 0, 1) := by decide +kernel
theorem dX6_fault_1 : decode cX6_fault 1 = .ok (.iconst 0, 1) := by decide +kernel
theorem dX6_fault_2 : decode cX6_fault 2 = .ok (.putfield 80, 3) := by decide +kernel
theorem dX6_fault_5 : decode cX6_fault 5 = .ok (.iload_n 1, 1) := by decide +kernel
theorem dX6_fault_6 : decode cX6_fault 6 = .ok (.ifCond .lt 8, 3) := by decide +kernel
theorem dX6_fault_9 : decode cX6_fault 9 = .ok (.iload_n 1, 1) := by decide +kernel
theorem dX6_fault_10 : decode cX6_fault 10 = .ok (.iconst 1, 1) := by decide +kernel
theorem dX6_fault_11 : decode cX6_fault 11 = .ok (.if_icmp .le 8, 3) := by decide +kernel
theorem dX6_fault_14 : decode cX6_fault 14 = .ok (.aload_n 0, 1) := by decide +kernel
theorem dX6_fault_15 : decode cX6_fault 15 = .ok (.invokevirtual 180, 3) := by decide +kernel
theorem dX6_fault_18 : decode cX6_fault 18 = .ok (.ireturn, 1) := by decide +kernel
theorem dX6_fault_19 : decode cX6_fault 19 = .ok (.iload_n 1, 1) := by decide +kernel
theorem dX6_fault_20 : decode cX6_fault 20 = .ok (.ifCond .ne 10, 3) := by decide +kernel
theorem dX6_fault_23 : decode cX6_fault 23 = .ok (.aload_n 0, 1) := by decide +kernel
theorem dX6_fault_24 : decode cX6_fault 24 = .ok (.getfield 187, 3) := by decide +kernel
theorem dX6_fault_27 : decode cX6_fault 27 = .ok (.goto 7, 3) := by decide +kernel
theorem dX6_fault_30 : decode cX6_fault 30 = .ok (.aload_n 0, 1) := by decide +kernel
theorem dX6_fault_31 : decode cX6_fault 31 = .ok (.getfield 13, 3) := by decide +kernel
theorem dX6_fault_34 : decode cX6_fault 34 = .ok (.ireturn, 1) := by decide +kernel
set_option maxRecDepth 20000 in
theorem ggX6_count_X6_fail : GoodIn wsX6_count wsX6_fail := goodIn_r _ [14, 1, 15, 16, 17, 18, 19, 20, 21, 22, 23, 24, 25, 26, 27, 28, 29, 30, 31, 32, 33, 34, 35, 36, 37, 38, 39, 40, 41, 42, 43, 44, 45, 46, 47, 48, 49, 50, 51, 52, 53, 54, 55, 56, 57, 58, 59] rfl (by decide +kernel)
set_option maxRecDepth 20000 in
theorem gX6_count_X6_fail : GoodIn wsX6_count (wsV RX6 180 RX6 yX6_fail wsX6_fail) := goodIn_app (goodIn_of _ (by decide +kernel)) ggX6_count_X6_fail
theorem dX6_count_0 : decode cX6_count 0 = .ok (.aload_n 0, 1) := by decide +kernel
theorem dX6_count_1 : decode cX6_count 1 = .ok (.iconst 0, 1) := by decide +kernel
theorem dX6_count_2 : decode cX6_count 2 = .ok (.putfield 80, 3) := by decide +kernel
theorem dX6_count_5 : decode cX6_count 5 = .ok (.iload_n 1, 1) := by decide +kernel
theorem dX6_count_6 : decode cX6_count 6 = .ok (.tableswitch 86 0 7 #[46, 51, 56, 61, 66, 71, 76, 81], 46) := by decide +kernel
theorem dX6_count_52 : decode cX6_count 52 = .ok (.aload_n 0, 1) := by decide +kernel
theorem dX6_count_53 : decode cX6_count 53 = .ok (.getfield 144, 3) := by decide +kernel
theorem dX6_count_56 : decode cX6_count 56 = .ok (.ireturn, 1) := by decide +kernel
theorem dX6_count_57 : decode cX6_count 57 = .ok (.aload_n 0, 1) := by decide +kernel
theorem dX6_count_58 : decode cX6_count 58 = .ok (.getfield 147, 3) := by decide +kernel
theorem dX6_count_61 : decode cX6_count 61 = .ok (.ireturn, 1) := by decide +kernel
theorem dX6_count_62 : decode cX6_count 62 = .ok (.aload_n 0, 1) := by decide +kernel
theorem dX6_count_63 : decode cX6_count 63 = .ok (.getfield 150, 3) := by decide +kernel
theorem dX6_count_66 : decode cX6_count 66 = .ok (.ireturn, 1) := by decide +kernel
theorem dX6_count_67 : decode cX6_count 67 = .ok (.aload_n 0, 1) := by decide +kernel
theorem dX6_count_68 : decode cX6_count 68 = .ok (.getfield 153, 3) := by decide +kernel
theorem dX6_count_71 : decode cX6_count 71 = .ok (.ireturn, 1) := by decide +kernel
theorem dX6_count_72 : decode cX6_count 72 = .ok (.aload_n 0, 1) := by decide +kernel
theorem dX6_count_73 : decode cX6_count 73 = .ok (.getfield 196, 3) := by decide +kernel
theorem dX6_count_76 : decode cX6_count 76 = .ok (.ireturn, 1) := by decide +kernel
theorem dX6_count_77 : decode cX6_count 77 = .ok (.aload_n 0, 1) := by decide +kernel
theorem dX6_count_78 : decode cX6_count 78 = .ok (.getfield 199, 3) := by decide +kernel
theorem dX6_count_81 : decode cX6_count 81 = .ok (.ireturn, 1) := by decide +kernel
theorem dX6_count_82 : decode cX6_count 82 = .ok (.aload_n 0, 1) := by decide +kernel
theorem dX6_count_83 : decode cX6_count 83 = .ok (.getfield 83, 3) := by decide +kernel
theorem dX6_count_86 : decode cX6_count 86 = .ok (.ireturn, 1) := by decide +kernel
theorem dX6_count_87 : decode cX6_count 87 = .ok (.aload_n 0, 1) := by decide +kernel
theorem dX6_count_88 : decode cX6_count 88 = .ok (.getfield 156, 3) := by decide +kernel
theorem dX6_count_91 : decode cX6_count 91 = .ok (.ireturn, 1) := by decide +kernel
theorem dX6_count_92 : decode cX6_count 92 = .ok (.aload_n 0, 1) := by decide +kernel
theorem dX6_count_93 : decode cX6_count 93 = .ok (.invokevirtual 180, 3) := by decide +kernel
theorem dX6_count_96 : decode cX6_count 96 = .ok (.ireturn, 1) := by decide +kernel
set_option maxRecDepth 20000 in
theorem ggX6_event_X6_fail : GoodIn wsX6_event wsX6_fail := goodIn_r _ [17, 1, 18, 19, 20, 21, 22, 23, 24, 25, 26, 27, 28, 29, 30, 31, 32, 33, 34, 35, 36, 37, 38, 39, 40, 41, 42, 43, 44, 45, 46, 47, 48, 49, 50, 51, 52, 53, 54, 55, 56, 57, 58, 59, 60, 61, 62] rfl (by decide +kernel)
set_option maxRecDepth 20000 in
theorem gX6_event_X6_fail : GoodIn wsX6_event (wsV RX6 180 RX6 yX6_fail wsX6_fail) := goodIn_app (goodIn_of _ (by decide +kernel)) ggX6_event_X6_fail
theorem dX6_event_0 : decode cX6_event 0 = .ok (.aload_n 0, 1) := by decide +kernel
theorem dX6_event_1 : decode cX6_event 1 = .ok (.iconst 0, 1) := by decide +kernel
theorem dX6_event_2 : decode cX6_event 2 = .ok (.putfield 80, 3) := by decide +kernel
theorem dX6_event_5 : decode cX6_event 5 = .ok (.iload_n 1, 1) := by decide +kernel
theorem dX6_event_6 : decode cX6_event 6 = .ok (.ifCond .lt 28, 3) := by decide +kernel
theorem dX6_event_9 : decode cX6_event 9 = .ok (.iload_n 1, 1) := by decide +kernel
theorem dX6_event_10 : decode cX6_event 10 = .ok (.aload_n 0, 1) := by decide +kernel
theorem dX6_event_11 : decode cX6_event 11 = .ok (.getfield 144, 3) := by decide +kernel
theorem dX6_event_14 : decode cX6_event 14 = .ok (.if_icmp .ge 20, 3) := by decide +kernel
theorem dX6_event_17 : decode cX6_event 17 = .ok (.iload_n 2, 1) := by decide +kernel
theorem dX6_event_18 : decode cX6_event 18 = .ok (.ifCond .lt 16, 3) := by decide +kernel
theorem dX6_event_21 : decode cX6_event 21 = .ok (.iload_n 2, 1) := by decide +kernel
theorem dX6_event_22 : decode cX6_event 22 = .ok (.bipush 8, 2) := by decide +kernel
theorem dX6_event_24 : decode cX6_event 24 = .ok (.aload_n 0, 1) := by decide +kernel
theorem dX6_event_25 : decode cX6_event 25 = .ok (.getfield 20, 3) := by decide +kernel
theorem dX6_event_28 : decode cX6_event 28 = .ok (.iload_n 1, 1) := by decide +kernel
theorem dX6_event_29 : decode cX6_event 29 = .ok (.iaload, 1) := by decide +kernel
theorem dX6_event_30 : decode cX6_event 30 = .ok (.iadd, 1) := by decide +kernel
theorem dX6_event_31 : decode cX6_event 31 = .ok (.if_icmp .le 8, 3) := by decide +kernel
theorem dX6_event_34 : decode cX6_event 34 = .ok (.aload_n 0, 1) := by decide +kernel
theorem dX6_event_35 : decode cX6_event 35 = .ok (.invokevirtual 180, 3) := by decide +kernel
theorem dX6_event_38 : decode cX6_event 38 = .ok (.ireturn, 1) := by decide +kernel
theorem dX6_event_39 : decode cX6_event 39 = .ok (.iload_n 2, 1) := by decide +kernel
theorem dX6_event_40 : decode cX6_event 40 = .ok (.tableswitch 131 0 8 #[52, 59, 66, 73, 80, 87, 94, 109, 124], 52) := by decide +kernel
theorem dX6_event_92 : decode cX6_event 92 = .ok (.aload_n 0, 1) := by decide +kernel
theorem dX6_event_93 : decode cX6_event 93 = .ok (.getfield 17, 3) := by decide +kernel
theorem dX6_event_96 : decode cX6_event 96 = .ok (.iload_n 1, 1) := by decide +kernel
theorem dX6_event_97 : decode cX6_event 97 = .ok (.iaload, 1) := by decide +kernel
theorem dX6_event_98 : decode cX6_event 98 = .ok (.ireturn, 1) := by decide +kernel
theorem dX6_event_99 : decode cX6_event 99 = .ok (.aload_n 0, 1) := by decide +kernel
theorem dX6_event_100 : decode cX6_event 100 = .ok (.getfield 20, 3) := by decide +kernel
theorem dX6_event_103 : decode cX6_event 103 = .ok (.iload_n 1, 1) := by decide +kernel
theorem dX6_event_104 : decode cX6_event 104 = .ok (.iaload, 1) := by decide +kernel
theorem dX6_event_105 : decode cX6_event 105 = .ok (.ireturn, 1) := by decide +kernel
theorem dX6_event_106 : decode cX6_event 106 = .ok (.aload_n 0, 1) := by decide +kernel
theorem dX6_event_107 : decode cX6_event 107 = .ok (.getfield 26, 3) := by decide +kernel
theorem dX6_event_110 : decode cX6_event 110 = .ok (.iload_n 1, 1) := by decide +kernel
theorem dX6_event_111 : decode cX6_event 111 = .ok (.iaload, 1) := by decide +kernel
theorem dX6_event_112 : decode cX6_event 112 = .ok (.ireturn, 1) := by decide +kernel
theorem dX6_event_113 : decode cX6_event 113 = .ok (.aload_n 0, 1) := by decide +kernel
theorem dX6_event_114 : decode cX6_event 114 = .ok (.getfield 29, 3) := by decide +kernel
theorem dX6_event_117 : decode cX6_event 117 = .ok (.iload_n 1, 1) := by decide +kernel
theorem dX6_event_118 : decode cX6_event 118 = .ok (.iaload, 1) := by decide +kernel
theorem dX6_event_119 : decode cX6_event 119 = .ok (.ireturn, 1) := by decide +kernel
theorem dX6_event_120 : decode cX6_event 120 = .ok (.aload_n 0, 1) := by decide +kernel
theorem dX6_event_121 : decode cX6_event 121 = .ok (.getfield 32, 3) := by decide +kernel
theorem dX6_event_124 : decode cX6_event 124 = .ok (.iload_n 1, 1) := by decide +kernel
theorem dX6_event_125 : decode cX6_event 125 = .ok (.iaload, 1) := by decide +kernel
theorem dX6_event_126 : decode cX6_event 126 = .ok (.ireturn, 1) := by decide +kernel
theorem dX6_event_127 : decode cX6_event 127 = .ok (.aload_n 0, 1) := by decide +kernel
theorem dX6_event_128 : decode cX6_event 128 = .ok (.getfield 35, 3) := by decide +kernel
theorem dX6_event_131 : decode cX6_event 131 = .ok (.iload_n 1, 1) := by decide +kernel
theorem dX6_event_132 : decode cX6_event 132 = .ok (.iaload, 1) := by decide +kernel
theorem dX6_event_133 : decode cX6_event 133 = .ok (.ireturn, 1) := by decide +kernel
theorem dX6_event_134 : decode cX6_event 134 = .ok (.aload_n 0, 1) := by decide +kernel
theorem dX6_event_135 : decode cX6_event 135 = .ok (.getfield 41, 3) := by decide +kernel
theorem dX6_event_138 : decode cX6_event 138 = .ok (.iload_n 1, 1) := by decide +kernel
theorem dX6_event_139 : decode cX6_event 139 = .ok (.baload, 1) := by decide +kernel
theorem dX6_event_140 : decode cX6_event 140 = .ok (.ifCond .eq 7, 3) := by decide +kernel
theorem dX6_event_143 : decode cX6_event 143 = .ok (.iconst 1, 1) := by decide +kernel
theorem dX6_event_144 : decode cX6_event 144 = .ok (.goto 4, 3) := by decide +kernel
theorem dX6_event_147 : decode cX6_event 147 = .ok (.iconst 0, 1) := by decide +kernel
theorem dX6_event_148 : decode cX6_event 148 = .ok (.ireturn, 1) := by decide +kernel
theorem dX6_event_149 : decode cX6_event 149 = .ok (.aload_n 0, 1) := by decide +kernel
theorem dX6_event_150 : decode cX6_event 150 = .ok (.getfield 45, 3) := by decide +kernel
theorem dX6_event_153 : decode cX6_event 153 = .ok (.iload_n 1, 1) := by decide +kernel
theorem dX6_event_154 : decode cX6_event 154 = .ok (.baload, 1) := by decide +kernel
theorem dX6_event_155 : decode cX6_event 155 = .ok (.ifCond .eq 7, 3) := by decide +kernel
theorem dX6_event_158 : decode cX6_event 158 = .ok (.iconst 1, 1) := by decide +kernel
theorem dX6_event_159 : decode cX6_event 159 = .ok (.goto 4, 3) := by decide +kernel
theorem dX6_event_162 : decode cX6_event 162 = .ok (.iconst 0, 1) := by decide +kernel
theorem dX6_event_163 : decode cX6_event 163 = .ok (.ireturn, 1) := by decide +kernel
theorem dX6_event_164 : decode cX6_event 164 = .ok (.aload_n 0, 1) := by decide +kernel
theorem dX6_event_165 : decode cX6_event 165 = .ok (.getfield 38, 3) := by decide +kernel
theorem dX6_event_168 : decode cX6_event 168 = .ok (.iload_n 1, 1) := by decide +kernel
theorem dX6_event_169 : decode cX6_event 169 = .ok (.iaload, 1) := by decide +kernel
theorem dX6_event_170 : decode cX6_event 170 = .ok (.ireturn, 1) := by decide +kernel
theorem dX6_event_171 : decode cX6_event 171 = .ok (.aload_n 0, 1) := by decide +kernel
theorem dX6_event_172 : decode cX6_event 172 = .ok (.getfield 23, 3) := by decide +kernel
theorem dX6_event_175 : decode cX6_event 175 = .ok (.iconst 4, 1) := by decide +kernel
theorem dX6_event_176 : decode cX6_event 176 = .ok (.iload_n 1, 1) := by decide +kernel
theorem dX6_event_177 : decode cX6_event 177 = .ok (.imul, 1) := by decide +kernel
theorem dX6_event_178 : decode cX6_event 178 = .ok (.iload_n 2, 1) := by decide +kernel
theorem dX6_event_179 : decode cX6_event 179 = .ok (.iadd, 1) := by decide +kernel
theorem dX6_event_180 : decode cX6_event 180 = .ok (.bipush 9, 2) := by decide +kernel
theorem dX6_event_182 : decode cX6_event 182 = .ok (.isub, 1) := by decide +kernel
theorem dX6_event_183 : decode cX6_event 183 = .ok (.iaload, 1) := by decide +kernel
theorem dX6_event_184 : decode cX6_event 184 = .ok (.ireturn, 1) := by decide +kernel
set_option maxRecDepth 20000 in
theorem ggX6_price_X6_fail : GoodIn wsX6_price wsX6_fail := goodIn_r _ [7, 1, 8, 9, 10, 11, 12, 13, 14, 15, 16, 17, 18, 19, 20, 21, 22, 23, 24, 25, 26, 27, 28, 29, 30, 31, 32, 33, 34, 35, 36, 37, 38, 39, 40, 41, 42, 43, 44, 45, 46, 47, 48, 49, 50, 51, 52] rfl (by decide +kernel)
set_option maxRecDepth 20000 in
theorem gX6_price_X6_fail : GoodIn wsX6_price (wsV RX6 180 RX6 yX6_fail wsX6_fail) := goodIn_app (goodIn_of _ (by decide +kernel)) ggX6_price_X6_fail
theorem dX6_price_0 : decode cX6_price 0 = .ok (.aload_n 0, 1) := by decide +kernel
theorem dX6_price_1 : decode cX6_price 1 = .ok (.iconst 0, 1) := by decide +kernel
theorem dX6_price_2 : decode cX6_price 2 = .ok (.putfield 80, 3) := by decide +kernel
theorem dX6_price_5 : decode cX6_price 5 = .ok (.iload_n 1, 1) := by decide +kernel
theorem dX6_price_6 : decode cX6_price 6 = .ok (.ifCond .lt 18, 3) := by decide +kernel
theorem dX6_price_9 : decode cX6_price 9 = .ok (.iload_n 1, 1) := by decide +kernel
theorem dX6_price_10 : decode cX6_price 10 = .ok (.iconst 3, 1) := by decide +kernel
theorem dX6_price_11 : decode cX6_price 11 = .ok (.if_icmp .gt 13, 3) := by decide +kernel
theorem dX6_price_14 : decode cX6_price 14 = .ok (.iload_n 2, 1) := by decide +kernel
theorem dX6_price_15 : decode cX6_price 15 = .ok (.ifCond .lt 9, 3) := by decide +kernel
theorem dX6_price_18 : decode cX6_price 18 = .ok (.iload_n 2, 1) := by decide +kernel
theorem dX6_price_19 : decode cX6_price 19 = .ok (.bipush 50, 2) := by decide +kernel
theorem dX6_price_21 : decode cX6_price 21 = .ok (.if_icmp .le 8, 3) := by decide +kernel
theorem dX6_price_24 : decode cX6_price 24 = .ok (.aload_n 0, 1) := by decide +kernel
theorem dX6_price_25 : decode cX6_price 25 = .ok (.invokevirtual 180, 3) := by decide +kernel
theorem dX6_price_28 : decode cX6_price 28 = .ok (.ireturn, 1) := by decide +kernel
theorem dX6_price_29 : decode cX6_price 29 = .ok (.aload_n 0, 1) := by decide +kernel
theorem dX6_price_30 : decode cX6_price 30 = .ok (.getfield 68, 3) := by decide +kernel
theorem dX6_price_33 : decode cX6_price 33 = .ok (.iload_n 1, 1) := by decide +kernel
theorem dX6_price_34 : decode cX6_price 34 = .ok (.iaload, 1) := by decide +kernel
theorem dX6_price_35 : decode cX6_price 35 = .ok (.istore_n 3, 1) := by decide +kernel
theorem dX6_price_36 : decode cX6_price 36 = .ok (.aload_n 0, 1) := by decide +kernel
theorem dX6_price_37 : decode cX6_price 37 = .ok (.getfield 68, 3) := by decide +kernel
theorem dX6_price_40 : decode cX6_price 40 = .ok (.iload_n 1, 1) := by decide +kernel
theorem dX6_price_41 : decode cX6_price 41 = .ok (.iload_n 2, 1) := by decide +kernel
theorem dX6_price_42 : decode cX6_price 42 = .ok (.iastore, 1) := by decide +kernel
theorem dX6_price_43 : decode cX6_price 43 = .ok (.iload_n 3, 1) := by decide +kernel
theorem dX6_price_44 : decode cX6_price 44 = .ok (.ireturn, 1) := by decide +kernel
theorem dX6_full_0 : decode cX6_full 0 = .ok (.iconst 1, 1) := by decide +kernel
theorem dX6_full_1 : decode cX6_full 1 = .ok (.aload_n 0, 1) := by decide +kernel
theorem dX6_full_2 : decode cX6_full 2 = .ok (.getfield 20, 3) := by decide +kernel
theorem dX6_full_5 : decode cX6_full 5 = .ok (.iload_n 1, 1) := by decide +kernel
theorem dX6_full_6 : decode cX6_full 6 = .ok (.iaload, 1) := by decide +kernel
theorem dX6_full_7 : decode cX6_full 7 = .ok (.ishl, 1) := by decide +kernel
theorem dX6_full_8 : decode cX6_full 8 = .ok (.iconst 1, 1) := by decide +kernel
theorem dX6_full_9 : decode cX6_full 9 = .ok (.isub, 1) := by decide +kernel
theorem dX6_full_10 : decode cX6_full 10 = .ok (.ireturn, 1) := by decide +kernel
theorem dX6_ones_0 : decode cX6_ones 0 = .ok (.iconst 0, 1) := by decide +kernel
theorem dX6_ones_1 : decode cX6_ones 1 = .ok (.istore_n 1, 1) := by decide +kernel
theorem dX6_ones_2 : decode cX6_ones 2 = .ok (.iload_n 0, 1) := by decide +kernel
theorem dX6_ones_3 : decode cX6_ones 3 = .ok (.istore_n 2, 1) := by decide +kernel
theorem dX6_ones_4 : decode cX6_ones 4 = .ok (.iload_n 2, 1) := by decide +kernel
theorem dX6_ones_5 : decode cX6_ones 5 = .ok (.ifCond .eq 15, 3) := by decide +kernel
theorem dX6_ones_8 : decode cX6_ones 8 = .ok (.iinc 1 1, 3) := by decide +kernel
theorem dX6_ones_11 : decode cX6_ones 11 = .ok (.iload_n 2, 1) := by decide +kernel
theorem dX6_ones_12 : decode cX6_ones 12 = .ok (.iload_n 2, 1) := by decide +kernel
theorem dX6_ones_13 : decode cX6_ones 13 = .ok (.iconst 1, 1) := by decide +kernel
theorem dX6_ones_14 : decode cX6_ones 14 = .ok (.isub, 1) := by decide +kernel
theorem dX6_ones_15 : decode cX6_ones 15 = .ok (.iand, 1) := by decide +kernel
theorem dX6_ones_16 : decode cX6_ones 16 = .ok (.istore_n 2, 1) := by decide +kernel
theorem dX6_ones_17 : decode cX6_ones 17 = .ok (.goto (-13), 3) := by decide +kernel
theorem dX6_ones_20 : decode cX6_ones 20 = .ok (.iload_n 1, 1) := by decide +kernel
theorem dX6_ones_21 : decode cX6_ones 21 = .ok (.ireturn, 1) := by decide +kernel
theorem dX6_bring_0 : decode cX6_bring 0 = .ok (.iload_n 2, 1) := by decide +kernel
theorem dX6_bring_1 : decode cX6_bring 1 = .ok (.aload_n 0, 1) := by decide +kernel
theorem dX6_bring_2 : decode cX6_bring 2 = .ok (.getfield 65, 3) := by decide +kernel
theorem dX6_bring_5 : decode cX6_bring 5 = .ok (.bipush 16, 2) := by decide +kernel
theorem dX6_bring_7 : decode cX6_bring 7 = .ok (.iload_n 1, 1) := by decide +kernel
theorem dX6_bring_8 : decode cX6_bring 8 = .ok (.imul, 1) := by decide +kernel
theorem dX6_bring_9 : decode cX6_bring 9 = .ok (.iaload, 1) := by decide +kernel
theorem dX6_bring_10 : decode cX6_bring 10 = .ok (.if_icmp .lt 5, 3) := by decide +kernel
theorem dX6_bring_13 : decode cX6_bring 13 = .ok (.iconst 0, 1) := by decide +kernel
theorem dX6_bring_14 : decode cX6_bring 14 = .ok (.ireturn, 1) := by decide +kernel
theorem dX6_bring_15 : decode cX6_bring 15 = .ok (.aload_n 0, 1) := by decide +kernel
theorem dX6_bring_16 : decode cX6_bring 16 = .ok (.getfield 65, 3) := by decide +kernel
theorem dX6_bring_19 : decode cX6_bring 19 = .ok (.bipush 16, 2) := by decide +kernel
theorem dX6_bring_21 : decode cX6_bring 21 = .ok (.iload_n 1, 1) := by decide +kernel
theorem dX6_bring_22 : decode cX6_bring 22 = .ok (.imul, 1) := by decide +kernel
theorem dX6_bring_23 : decode cX6_bring 23 = .ok (.iload_n 2, 1) := by decide +kernel
theorem dX6_bring_24 : decode cX6_bring 24 = .ok (.iastore, 1) := by decide +kernel
theorem dX6_bring_25 : decode cX6_bring 25 = .ok (.iconst 1, 1) := by decide +kernel
theorem dX6_bring_26 : decode cX6_bring 26 = .ok (.ireturn, 1) := by decide +kernel
set_option maxRecDepth 20000 in
theorem ggX6_bringDown_X6_full : GoodIn wsX6_bringDown wsX6_full := goodIn_r _ [15, 16, 24, 25, 26, 27, 28, 29, 30, 31, 32, 33, 34, 35, 36, 37, 38, 39, 40, 41, 42, 43, 44, 45, 46, 47, 48, 49, 50, 51, 52, 53, 54, 55, 56, 57, 58, 59, 60, 61, 62, 63, 64, 65, 66, 67, 68] rfl (by decide +kernel)
set_option maxRecDepth 20000 in
theorem gX6_bringDown_X6_full : GoodIn wsX6_bringDown (wsV RX6 203 RX6 yX6_full wsX6_full) := goodIn_app (goodIn_of _ (by decide +kernel)) ggX6_bringDown_X6_full
set_option maxRecDepth 20000 in
theorem ggX6_bringDown_X6_ones : GoodIn wsX6_bringDown wsX6_ones := goodIn_r _ [19] rfl (by decide +kernel)
set_option maxRecDepth 20000 in
theorem gX6_bringDown_X6_ones : GoodIn wsX6_bringDown (va_wsS RX6 206 yX6_ones wsX6_ones) := goodIn_app (goodIn_of _ (by decide +kernel)) ggX6_bringDown_X6_ones
set_option maxRecDepth 20000 in
theorem ggX6_bringDown_X6_bring : GoodIn wsX6_bringDown wsX6_bring := goodIn_r _ [23, 1, 24, 25, 26, 27, 28, 29, 30, 31, 32, 33, 34, 35, 36, 37, 38, 39, 40, 41, 42, 43, 44, 45, 46, 47, 48, 49, 50, 51, 52, 53, 54, 55, 56, 57, 58, 59, 60, 61, 62, 63, 64, 65, 66, 67, 68] rfl (by decide +kernel)
set_option maxRecDepth 20000 in
theorem gX6_bringDown_X6_bring : GoodIn wsX6_bringDown (wsV RX6 209 RX6 yX6_bring wsX6_bring) := goodIn_app (goodIn_of _ (by decide +kernel)) ggX6_bringDown_X6_bring
theorem dX6_bringDown_0 : decode cX6_bringDown 0 = .ok (.iconst 0, 1) := by decide +kernel
theorem dX6_bringDown_1 : decode cX6_bringDown 1 = .ok (.istore_n 2, 1) := by decide +kernel
theorem dX6_bringDown_2 : decode cX6_bringDown 2 = .ok (.iload_n 2, 1) := by decide +kernel
theorem dX6_bringDown_3 : decode cX6_bringDown 3 = .ok (.sipush 1600, 3) := by decide +kernel
theorem dX6_bringDown_6 : decode cX6_bringDown 6 = .ok (.if_icmp .ge 18, 3) := by decide +kernel
theorem dX6_bringDown_9 : decode cX6_bringDown 9 = .ok (.aload_n 0, 1) := by decide +kernel
theorem dX6_bringDown_10 : decode cX6_bringDown 10 = .ok (.getfield 65, 3) := by decide +kernel
theorem dX6_bringDown_13 : decode cX6_bringDown 13 = .ok (.iload_n 2, 1) := by decide +kernel
theorem dX6_bringDown_14 : decode cX6_bringDown 14 = .ok (.aload_n 1, 1) := by decide +kernel
theorem dX6_bringDown_15 : decode cX6_bringDown 15 = .ok (.iload_n 2, 1) := by decide +kernel
theorem dX6_bringDown_16 : decode cX6_bringDown 16 = .ok (.iaload, 1) := by decide +kernel
theorem dX6_bringDown_17 : decode cX6_bringDown 17 = .ok (.iastore, 1) := by decide +kernel
theorem dX6_bringDown_18 : decode cX6_bringDown 18 = .ok (.iinc 2 1, 3) := by decide +kernel
theorem dX6_bringDown_21 : decode cX6_bringDown 21 = .ok (.goto (-19), 3) := by decide +kernel
theorem dX6_bringDown_24 : decode cX6_bringDown 24 = .ok (.iconst 1, 1) := by decide +kernel
theorem dX6_bringDown_25 : decode cX6_bringDown 25 = .ok (.istore_n 2, 1) := by decide +kernel
theorem dX6_bringDown_26 : decode cX6_bringDown 26 = .ok (.iload_n 2, 1) := by decide +kernel
theorem dX6_bringDown_27 : decode cX6_bringDown 27 = .ok (.ifCond .eq 258, 3) := by decide +kernel
theorem dX6_bringDown_30 : decode cX6_bringDown 30 = .ok (.iconst 0, 1) := by decide +kernel
theorem dX6_bringDown_31 : decode cX6_bringDown 31 = .ok (.istore_n 2, 1) := by decide +kernel
theorem dX6_bringDown_32 : decode cX6_bringDown 32 = .ok (.ldc 202, 2) := by decide +kernel
theorem dX6_bringDown_34 : decode cX6_bringDown 34 = .ok (.istore_n 3, 1) := by decide +kernel
theorem dX6_bringDown_35 : decode cX6_bringDown 35 = .ok (.iconst 0, 1) := by decide +kernel
theorem dX6_bringDown_36 : decode cX6_bringDown 36 = .ok (.istore 4, 2) := by decide +kernel
theorem dX6_bringDown_38 : decode cX6_bringDown 38 = .ok (.iload 4, 2) := by decide +kernel
theorem dX6_bringDown_40 : decode cX6_bringDown 40 = .ok (.aload_n 0, 1) := by decide +kernel
theorem dX6_bringDown_41 : decode cX6_bringDown 41 = .ok (.getfield 144, 3) := by decide +kernel
theorem dX6_bringDown_44 : decode cX6_bringDown 44 = .ok (.if_icmp .ge 177, 3) := by decide +kernel
theorem dX6_bringDown_47 : decode cX6_bringDown 47 = .ok (.ldc 202, 2) := by decide +kernel
theorem dX6_bringDown_49 : decode cX6_bringDown 49 = .ok (.istore 5, 2) := by decide +kernel
theorem dX6_bringDown_51 : decode cX6_bringDown 51 = .ok (.iconst 0, 1) := by decide +kernel
theorem dX6_bringDown_52 : decode cX6_bringDown 52 = .ok (.istore 6, 2) := by decide +kernel
theorem dX6_bringDown_54 : decode cX6_bringDown 54 = .ok (.iload 6, 2) := by decide +kernel
theorem dX6_bringDown_56 : decode cX6_bringDown 56 = .ok (.aload_n 0, 1) := by decide +kernel
theorem dX6_bringDown_57 : decode cX6_bringDown 57 = .ok (.iload 4, 2) := by decide +kernel
theorem dX6_bringDown_59 : decode cX6_bringDown 59 = .ok (.invokevirtual 203, 3) := by decide +kernel
theorem dX6_bringDown_62 : decode cX6_bringDown 62 = .ok (.if_icmp .gt 72, 3) := by decide +kernel
theorem dX6_bringDown_65 : decode cX6_bringDown 65 = .ok (.aload_n 0, 1) := by decide +kernel
theorem dX6_bringDown_66 : decode cX6_bringDown 66 = .ok (.getfield 65, 3) := by decide +kernel
theorem dX6_bringDown_69 : decode cX6_bringDown 69 = .ok (.bipush 16, 2) := by decide +kernel
theorem dX6_bringDown_71 : decode cX6_bringDown 71 = .ok (.iload 4, 2) := by decide +kernel
theorem dX6_bringDown_73 : decode cX6_bringDown 73 = .ok (.imul, 1) := by decide +kernel
theorem dX6_bringDown_74 : decode cX6_bringDown 74 = .ok (.iload 6, 2) := by decide +kernel
theorem dX6_bringDown_76 : decode cX6_bringDown 76 = .ok (.iadd, 1) := by decide +kernel
theorem dX6_bringDown_77 : decode cX6_bringDown 77 = .ok (.iaload, 1) := by decide +kernel
theorem dX6_bringDown_78 : decode cX6_bringDown 78 = .ok (.istore 7, 2) := by decide +kernel
theorem dX6_bringDown_80 : decode cX6_bringDown 80 = .ok (.iload 7, 2) := by decide +kernel
theorem dX6_bringDown_82 : decode cX6_bringDown 82 = .ok (.ldc 202, 2) := by decide +kernel
theorem dX6_bringDown_84 : decode cX6_bringDown 84 = .ok (.if_icmp .lt 6, 3) := by decide +kernel
theorem dX6_bringDown_87 : decode cX6_bringDown 87 = .ok (.goto 41, 3) := by decide +kernel
theorem dX6_bringDown_90 : decode cX6_bringDown 90 = .ok (.iload_n 3, 1) := by decide +kernel
theorem dX6_bringDown_91 : decode cX6_bringDown 91 = .ok (.iload 7, 2) := by decide +kernel
theorem dX6_bringDown_93 : decode cX6_bringDown 93 = .ok (.invokestatic 112, 3) := by decide +kernel
theorem dX6_bringDown_96 : decode cX6_bringDown 96 = .ok (.istore_n 3, 1) := by decide +kernel
theorem dX6_bringDown_97 : decode cX6_bringDown 97 = .ok (.iload 5, 2) := by decide +kernel
theorem dX6_bringDown_99 : decode cX6_bringDown 99 = .ok (.iload 7, 2) := by decide +kernel
theorem dX6_bringDown_101 : decode cX6_bringDown 101 = .ok (.aload_n 0, 1) := by decide +kernel
theorem dX6_bringDown_102 : decode cX6_bringDown 102 = .ok (.getfield 68, 3) := by decide +kernel
theorem dX6_bringDown_105 : decode cX6_bringDown 105 = .ok (.iconst 2, 1) := by decide +kernel
theorem dX6_bringDown_106 : decode cX6_bringDown 106 = .ok (.iaload, 1) := by decide +kernel
theorem dX6_bringDown_107 : decode cX6_bringDown 107 = .ok (.aload_n 0, 1) := by decide +kernel
theorem dX6_bringDown_108 : decode cX6_bringDown 108 = .ok (.iload 4, 2) := by decide +kernel
theorem dX6_bringDown_110 : decode cX6_bringDown 110 = .ok (.invokevirtual 203, 3) := by decide +kernel
theorem dX6_bringDown_113 : decode cX6_bringDown 113 = .ok (.iload 6, 2) := by decide +kernel
theorem dX6_bringDown_115 : decode cX6_bringDown 115 = .ok (.iconst (-1), 1) := by decide +kernel
theorem dX6_bringDown_116 : decode cX6_bringDown 116 = .ok (.ixor, 1) := by decide +kernel
theorem dX6_bringDown_117 : decode cX6_bringDown 117 = .ok (.iand, 1) := by decide +kernel
theorem dX6_bringDown_118 : decode cX6_bringDown 118 = .ok (.invokestatic 206, 3) := by decide +kernel
theorem dX6_bringDown_121 : decode cX6_bringDown 121 = .ok (.imul, 1) := by decide +kernel
theorem dX6_bringDown_122 : decode cX6_bringDown 122 = .ok (.iadd, 1) := by decide +kernel
theorem dX6_bringDown_123 : decode cX6_bringDown 123 = .ok (.invokestatic 112, 3) := by decide +kernel
theorem dX6_bringDown_126 : decode cX6_bringDown 126 = .ok (.istore 5, 2) := by decide +kernel
theorem dX6_bringDown_128 : decode cX6_bringDown 128 = .ok (.iinc 6 1, 3) := by decide +kernel
theorem dX6_bringDown_131 : decode cX6_bringDown 131 = .ok (.goto (-77), 3) := by decide +kernel
theorem dX6_bringDown_134 : decode cX6_bringDown 134 = .ok (.iload 5, 2) := by decide +kernel
theorem dX6_bringDown_136 : decode cX6_bringDown 136 = .ok (.ldc 202, 2) := by decide +kernel
theorem dX6_bringDown_138 : decode cX6_bringDown 138 = .ok (.if_icmp .lt 6, 3) := by decide +kernel
theorem dX6_bringDown_141 : decode cX6_bringDown 141 = .ok (.goto 74, 3) := by decide +kernel
theorem dX6_bringDown_144 : decode cX6_bringDown 144 = .ok (.iload 4, 2) := by decide +kernel
theorem dX6_bringDown_146 : decode cX6_bringDown 146 = .ok (.iconst 1, 1) := by decide +kernel
theorem dX6_bringDown_147 : decode cX6_bringDown 147 = .ok (.iadd, 1) := by decide +kernel
theorem dX6_bringDown_148 : decode cX6_bringDown 148 = .ok (.aload_n 0, 1) := by decide +kernel
theorem dX6_bringDown_149 : decode cX6_bringDown 149 = .ok (.getfield 144, 3) := by decide +kernel
theorem dX6_bringDown_152 : decode cX6_bringDown 152 = .ok (.if_icmp .ge 26, 3) := by decide +kernel
theorem dX6_bringDown_155 : decode cX6_bringDown 155 = .ok (.aload_n 0, 1) := by decide +kernel
theorem dX6_bringDown_156 : decode cX6_bringDown 156 = .ok (.iload 4, 2) := by decide +kernel
theorem dX6_bringDown_158 : decode cX6_bringDown 158 = .ok (.iconst 1, 1) := by decide +kernel
theorem dX6_bringDown_159 : decode cX6_bringDown 159 = .ok (.iadd, 1) := by decide +kernel
theorem dX6_bringDown_160 : decode cX6_bringDown 160 = .ok (.iload 5, 2) := by decide +kernel
theorem dX6_bringDown_162 : decode cX6_bringDown 162 = .ok (.invokevirtual 209, 3) := by decide +kernel
theorem dX6_bringDown_165 : decode cX6_bringDown 165 = .ok (.ifCond .ne 7, 3) := by decide +kernel
theorem dX6_bringDown_168 : decode cX6_bringDown 168 = .ok (.iload_n 2, 1) := by decide +kernel
theorem dX6_bringDown_169 : decode cX6_bringDown 169 = .ok (.ifCond .eq 7, 3) := by decide +kernel
theorem dX6_bringDown_172 : decode cX6_bringDown 172 = .ok (.iconst 1, 1) := by decide +kernel
theorem dX6_bringDown_173 : decode cX6_bringDown 173 = .ok (.goto 4, 3) := by decide +kernel
theorem dX6_bringDown_176 : decode cX6_bringDown 176 = .ok (.iconst 0, 1) := by decide +kernel
theorem dX6_bringDown_177 : decode cX6_bringDown 177 = .ok (.istore_n 2, 1) := by decide +kernel
theorem dX6_bringDown_178 : decode cX6_bringDown 178 = .ok (.aload_n 0, 1) := by decide +kernel
theorem dX6_bringDown_179 : decode cX6_bringDown 179 = .ok (.getfield 38, 3) := by decide +kernel
theorem dX6_bringDown_182 : decode cX6_bringDown 182 = .ok (.iload 4, 2) := by decide +kernel
theorem dX6_bringDown_184 : decode cX6_bringDown 184 = .ok (.iaload, 1) := by decide +kernel
theorem dX6_bringDown_185 : decode cX6_bringDown 185 = .ok (.iconst (-1), 1) := by decide +kernel
theorem dX6_bringDown_186 : decode cX6_bringDown 186 = .ok (.if_icmp .eq 29, 3) := by decide +kernel
theorem dX6_bringDown_189 : decode cX6_bringDown 189 = .ok (.aload_n 0, 1) := by decide +kernel
theorem dX6_bringDown_190 : decode cX6_bringDown 190 = .ok (.aload_n 0, 1) := by decide +kernel
theorem dX6_bringDown_191 : decode cX6_bringDown 191 = .ok (.getfield 38, 3) := by decide +kernel
theorem dX6_bringDown_194 : decode cX6_bringDown 194 = .ok (.iload 4, 2) := by decide +kernel
theorem dX6_bringDown_196 : decode cX6_bringDown 196 = .ok (.iaload, 1) := by decide +kernel
theorem dX6_bringDown_197 : decode cX6_bringDown 197 = .ok (.iload 5, 2) := by decide +kernel
theorem dX6_bringDown_199 : decode cX6_bringDown 199 = .ok (.invokevirtual 209, 3) := by decide +kernel
theorem dX6_bringDown_202 : decode cX6_bringDown 202 = .ok (.ifCond .ne 7, 3) := by decide +kernel
theorem dX6_bringDown_205 : decode cX6_bringDown 205 = .ok (.iload_n 2, 1) := by decide +kernel
theorem dX6_bringDown_206 : decode cX6_bringDown 206 = .ok (.ifCond .eq 7, 3) := by decide +kernel
theorem dX6_bringDown_209 : decode cX6_bringDown 209 = .ok (.iconst 1, 1) := by decide +kernel
theorem dX6_bringDown_210 : decode cX6_bringDown 210 = .ok (.goto 4, 3) := by decide +kernel
theorem dX6_bringDown_213 : decode cX6_bringDown 213 = .ok (.iconst 0, 1) := by decide +kernel
theorem dX6_bringDown_214 : decode cX6_bringDown 214 = .ok (.istore_n 2, 1) := by decide +kernel
theorem dX6_bringDown_215 : decode cX6_bringDown 215 = .ok (.iinc 4 1, 3) := by decide +kernel
theorem dX6_bringDown_218 : decode cX6_bringDown 218 = .ok (.goto (-180), 3) := by decide +kernel
theorem dX6_bringDown_221 : decode cX6_bringDown 221 = .ok (.iconst 0, 1) := by decide +kernel
theorem dX6_bringDown_222 : decode cX6_bringDown 222 = .ok (.istore 4, 2) := by decide +kernel
theorem dX6_bringDown_224 : decode cX6_bringDown 224 = .ok (.iload 4, 2) := by decide +kernel
theorem dX6_bringDown_226 : decode cX6_bringDown 226 = .ok (.aload_n 0, 1) := by decide +kernel
theorem dX6_bringDown_227 : decode cX6_bringDown 227 = .ok (.getfield 144, 3) := by decide +kernel
theorem dX6_bringDown_230 : decode cX6_bringDown 230 = .ok (.if_icmp .ge 52, 3) := by decide +kernel
theorem dX6_bringDown_233 : decode cX6_bringDown 233 = .ok (.iload_n 3, 1) := by decide +kernel
theorem dX6_bringDown_234 : decode cX6_bringDown 234 = .ok (.ldc 202, 2) := by decide +kernel
theorem dX6_bringDown_236 : decode cX6_bringDown 236 = .ok (.if_icmp .ge 46, 3) := by decide +kernel
theorem dX6_bringDown_239 : decode cX6_bringDown 239 = .ok (.aload_n 0, 1) := by decide +kernel
theorem dX6_bringDown_240 : decode cX6_bringDown 240 = .ok (.getfield 41, 3) := by decide +kernel
theorem dX6_bringDown_243 : decode cX6_bringDown 243 = .ok (.iload 4, 2) := by decide +kernel
theorem dX6_bringDown_245 : decode cX6_bringDown 245 = .ok (.baload, 1) := by decide +kernel
theorem dX6_bringDown_246 : decode cX6_bringDown 246 = .ok (.ifCond .eq 30, 3) := by decide +kernel
theorem dX6_bringDown_249 : decode cX6_bringDown 249 = .ok (.aload_n 0, 1) := by decide +kernel
theorem dX6_bringDown_250 : decode cX6_bringDown 250 = .ok (.iload 4, 2) := by decide +kernel
theorem dX6_bringDown_252 : decode cX6_bringDown 252 = .ok (.iload_n 3, 1) := by decide +kernel
theorem dX6_bringDown_253 : decode cX6_bringDown 253 = .ok (.aload_n 0, 1) := by decide +kernel
theorem dX6_bringDown_254 : decode cX6_bringDown 254 = .ok (.getfield 68, 3) := by decide +kernel
theorem dX6_bringDown_257 : decode cX6_bringDown 257 = .ok (.iconst 3, 1) := by decide +kernel
theorem dX6_bringDown_258 : decode cX6_bringDown 258 = .ok (.iaload, 1) := by decide +kernel
theorem dX6_bringDown_259 : decode cX6_bringDown 259 = .ok (.iadd, 1) := by decide +kernel
theorem dX6_bringDown_260 : decode cX6_bringDown 260 = .ok (.invokevirtual 209, 3) := by decide +kernel
theorem dX6_bringDown_263 : decode cX6_bringDown 263 = .ok (.ifCond .ne 7, 3) := by decide +kernel
theorem dX6_bringDown_266 : decode cX6_bringDown 266 = .ok (.iload_n 2, 1) := by decide +kernel
theorem dX6_bringDown_267 : decode cX6_bringDown 267 = .ok (.ifCond .eq 7, 3) := by decide +kernel
theorem dX6_bringDown_270 : decode cX6_bringDown 270 = .ok (.iconst 1, 1) := by decide +kernel
theorem dX6_bringDown_271 : decode cX6_bringDown 271 = .ok (.goto 4, 3) := by decide +kernel
theorem dX6_bringDown_274 : decode cX6_bringDown 274 = .ok (.iconst 0, 1) := by decide +kernel
theorem dX6_bringDown_275 : decode cX6_bringDown 275 = .ok (.istore_n 2, 1) := by decide +kernel
theorem dX6_bringDown_276 : decode cX6_bringDown 276 = .ok (.iinc 4 1, 3) := by decide +kernel
theorem dX6_bringDown_279 : decode cX6_bringDown 279 = .ok (.goto (-55), 3) := by decide +kernel
theorem dX6_bringDown_282 : decode cX6_bringDown 282 = .ok (.goto (-256), 3) := by decide +kernel
theorem dX6_bringDown_285 : decode cX6_bringDown 285 = .ok (.return_, 1) := by decide +kernel
theorem dX6_come_0 : decode cX6_come 0 = .ok (.aload_n 1, 1) := by decide +kernel
theorem dX6_come_1 : decode cX6_come 1 = .ok (.iload_n 2, 1) := by decide +kernel
theorem dX6_come_2 : decode cX6_come 2 = .ok (.aload_n 1, 1) := by decide +kernel
theorem dX6_come_3 : decode cX6_come 3 = .ok (.iload_n 2, 1) := by decide +kernel
theorem dX6_come_4 : decode cX6_come 4 = .ok (.iaload, 1) := by decide +kernel
theorem dX6_come_5 : decode cX6_come 5 = .ok (.iload_n 3, 1) := by decide +kernel
theorem dX6_come_6 : decode cX6_come 6 = .ok (.invokestatic 112, 3) := by decide +kernel
theorem dX6_come_9 : decode cX6_come 9 = .ok (.iastore, 1) := by decide +kernel
theorem dX6_come_10 : decode cX6_come 10 = .ok (.return_, 1) := by decide +kernel
set_option maxRecDepth 20000 in
theorem ggX6_hear_X6_full : GoodIn wsX6_hear wsX6_full := goodIn_r _ [12, 7, 21, 22, 23, 24, 25, 26, 27, 28, 29, 30, 31, 32, 33, 34, 35, 36, 37, 38, 39, 40, 41, 42, 43, 44, 45, 46, 47, 48, 49, 50, 51, 52, 53, 54, 55, 56, 57, 58, 59, 60, 61, 62, 63, 64, 65] rfl (by decide +kernel)
set_option maxRecDepth 20000 in
theorem gX6_hear_X6_full : GoodIn wsX6_hear (wsV RX6 203 RX6 yX6_full wsX6_full) := goodIn_app (goodIn_of _ (by decide +kernel)) ggX6_hear_X6_full
set_option maxRecDepth 20000 in
theorem ggX6_hear_X6_come : GoodIn wsX6_hear wsX6_come := goodIn_r _ [16, 17, 18, 19, 20] rfl (by decide +kernel)
set_option maxRecDepth 20000 in
theorem gX6_hear_X6_come : GoodIn wsX6_hear (wsV RX6 213 RX6 yX6_come wsX6_come) := goodIn_app (goodIn_of _ (by decide +kernel)) ggX6_hear_X6_come
theorem dX6_hear_0 : decode cX6_hear 0 = .ok (.iconst 0, 1) := by decide +kernel
theorem dX6_hear_1 : decode cX6_hear 1 = .ok (.istore_n 3, 1) := by decide +kernel
theorem dX6_hear_2 : decode cX6_hear 2 = .ok (.iload_n 3, 1) := by decide +kernel
theorem dX6_hear_3 : decode cX6_hear 3 = .ok (.sipush 1600, 3) := by decide +kernel
theorem dX6_hear_6 : decode cX6_hear 6 = .ok (.if_icmp .ge 14, 3) := by decide +kernel
theorem dX6_hear_9 : decode cX6_hear 9 = .ok (.aload_n 2, 1) := by decide +kernel
theorem dX6_hear_10 : decode cX6_hear 10 = .ok (.iload_n 3, 1) := by decide +kernel
theorem dX6_hear_11 : decode cX6_hear 11 = .ok (.ldc 202, 2) := by decide +kernel
theorem dX6_hear_13 : decode cX6_hear 13 = .ok (.iastore, 1) := by decide +kernel
theorem dX6_hear_14 : decode cX6_hear 14 = .ok (.iinc 3 1, 3) := by decide +kernel
theorem dX6_hear_17 : decode cX6_hear 17 = .ok (.goto (-15), 3) := by decide +kernel
theorem dX6_hear_20 : decode cX6_hear 20 = .ok (.iconst 0, 1) := by decide +kernel
theorem dX6_hear_21 : decode cX6_hear 21 = .ok (.istore_n 3, 1) := by decide +kernel
theorem dX6_hear_22 : decode cX6_hear 22 = .ok (.iload_n 3, 1) := by decide +kernel
theorem dX6_hear_23 : decode cX6_hear 23 = .ok (.aload_n 0, 1) := by decide +kernel
theorem dX6_hear_24 : decode cX6_hear 24 = .ok (.getfield 144, 3) := by decide +kernel
theorem dX6_hear_27 : decode cX6_hear 27 = .ok (.if_icmp .ge 247, 3) := by decide +kernel
theorem dX6_hear_30 : decode cX6_hear 30 = .ok (.iconst 0, 1) := by decide +kernel
theorem dX6_hear_31 : decode cX6_hear 31 = .ok (.istore 4, 2) := by decide +kernel
theorem dX6_hear_33 : decode cX6_hear 33 = .ok (.iload 4, 2) := by decide +kernel
theorem dX6_hear_35 : decode cX6_hear 35 = .ok (.aload_n 0, 1) := by decide +kernel
theorem dX6_hear_36 : decode cX6_hear 36 = .ok (.iload_n 3, 1) := by decide +kernel
theorem dX6_hear_37 : decode cX6_hear 37 = .ok (.invokevirtual 203, 3) := by decide +kernel
theorem dX6_hear_40 : decode cX6_hear 40 = .ok (.if_icmp .gt 228, 3) := by decide +kernel
theorem dX6_hear_43 : decode cX6_hear 43 = .ok (.bipush 16, 2) := by decide +kernel
theorem dX6_hear_45 : decode cX6_hear 45 = .ok (.iload_n 3, 1) := by decide +kernel
theorem dX6_hear_46 : decode cX6_hear 46 = .ok (.imul, 1) := by decide +kernel
theorem dX6_hear_47 : decode cX6_hear 47 = .ok (.iload 4, 2) := by decide +kernel
theorem dX6_hear_49 : decode cX6_hear 49 = .ok (.iadd, 1) := by decide +kernel
theorem dX6_hear_50 : decode cX6_hear 50 = .ok (.istore 5, 2) := by decide +kernel
theorem dX6_hear_52 : decode cX6_hear 52 = .ok (.aload_n 0, 1) := by decide +kernel
theorem dX6_hear_53 : decode cX6_hear 53 = .ok (.getfield 65, 3) := by decide +kernel
theorem dX6_hear_56 : decode cX6_hear 56 = .ok (.iload 5, 2) := by decide +kernel
theorem dX6_hear_58 : decode cX6_hear 58 = .ok (.iaload, 1) := by decide +kernel
theorem dX6_hear_59 : decode cX6_hear 59 = .ok (.istore 6, 2) := by decide +kernel
theorem dX6_hear_61 : decode cX6_hear 61 = .ok (.iload 6, 2) := by decide +kernel
theorem dX6_hear_63 : decode cX6_hear 63 = .ok (.ldc 202, 2) := by decide +kernel
theorem dX6_hear_65 : decode cX6_hear 65 = .ok (.if_icmp .lt 6, 3) := by decide +kernel
theorem dX6_hear_68 : decode cX6_hear 68 = .ok (.goto 194, 3) := by decide +kernel
theorem dX6_hear_71 : decode cX6_hear 71 = .ok (.aload_n 0, 1) := by decide +kernel
theorem dX6_hear_72 : decode cX6_hear 72 = .ok (.aload_n 2, 1) := by decide +kernel
theorem dX6_hear_73 : decode cX6_hear 73 = .ok (.iload 5, 2) := by decide +kernel
theorem dX6_hear_75 : decode cX6_hear 75 = .ok (.iload 6, 2) := by decide +kernel
theorem dX6_hear_77 : decode cX6_hear 77 = .ok (.aload_n 0, 1) := by decide +kernel
theorem dX6_hear_78 : decode cX6_hear 78 = .ok (.getfield 68, 3) := by decide +kernel
theorem dX6_hear_81 : decode cX6_hear 81 = .ok (.iconst 1, 1) := by decide +kernel
theorem dX6_hear_82 : decode cX6_hear 82 = .ok (.iaload, 1) := by decide +kernel
theorem dX6_hear_83 : decode cX6_hear 83 = .ok (.iadd, 1) := by decide +kernel
theorem dX6_hear_84 : decode cX6_hear 84 = .ok (.invokevirtual 213, 3) := by decide +kernel
theorem dX6_hear_87 : decode cX6_hear 87 = .ok (.aload_n 0, 1) := by decide +kernel
theorem dX6_hear_88 : decode cX6_hear 88 = .ok (.getfield 17, 3) := by decide +kernel
theorem dX6_hear_91 : decode cX6_hear 91 = .ok (.iload_n 3, 1) := by decide +kernel
theorem dX6_hear_92 : decode cX6_hear 92 = .ok (.iaload, 1) := by decide +kernel
theorem dX6_hear_93 : decode cX6_hear 93 = .ok (.iconst 2, 1) := by decide +kernel
theorem dX6_hear_94 : decode cX6_hear 94 = .ok (.if_icmp .ne 68, 3) := by decide +kernel
theorem dX6_hear_97 : decode cX6_hear 97 = .ok (.iload_n 1, 1) := by decide +kernel
theorem dX6_hear_98 : decode cX6_hear 98 = .ok (.aload_n 0, 1) := by decide +kernel
theorem dX6_hear_99 : decode cX6_hear 99 = .ok (.getfield 23, 3) := by decide +kernel
theorem dX6_hear_102 : decode cX6_hear 102 = .ok (.iconst 4, 1) := by decide +kernel
theorem dX6_hear_103 : decode cX6_hear 103 = .ok (.iload_n 3, 1) := by decide +kernel
theorem dX6_hear_104 : decode cX6_hear 104 = .ok (.imul, 1) := by decide +kernel
theorem dX6_hear_105 : decode cX6_hear 105 = .ok (.iaload, 1) := by decide +kernel
theorem dX6_hear_106 : decode cX6_hear 106 = .ok (.isub, 1) := by decide +kernel
theorem dX6_hear_107 : decode cX6_hear 107 = .ok (.istore 7, 2) := by decide +kernel
theorem dX6_hear_109 : decode cX6_hear 109 = .ok (.iload 7, 2) := by decide +kernel
theorem dX6_hear_111 : decode cX6_hear 111 = .ok (.iconst (-1), 1) := by decide +kernel
theorem dX6_hear_112 : decode cX6_hear 112 = .ok (.if_icmp .lt 22, 3) := by decide +kernel
theorem dX6_hear_115 : decode cX6_hear 115 = .ok (.iload 7, 2) := by decide +kernel
theorem dX6_hear_117 : decode cX6_hear 117 = .ok (.iconst 1, 1) := by decide +kernel
theorem dX6_hear_118 : decode cX6_hear 118 = .ok (.if_icmp .gt 16, 3) := by decide +kernel
theorem dX6_hear_121 : decode cX6_hear 121 = .ok (.aload_n 0, 1) := by decide +kernel
theorem dX6_hear_122 : decode cX6_hear 122 = .ok (.aload_n 2, 1) := by decide +kernel
theorem dX6_hear_123 : decode cX6_hear 123 = .ok (.bipush 16, 2) := by decide +kernel
theorem dX6_hear_125 : decode cX6_hear 125 = .ok (.iload_n 3, 1) := by decide +kernel
theorem dX6_hear_126 : decode cX6_hear 126 = .ok (.imul, 1) := by decide +kernel
theorem dX6_hear_127 : decode cX6_hear 127 = .ok (.iconst 1, 1) := by decide +kernel
theorem dX6_hear_128 : decode cX6_hear 128 = .ok (.iadd, 1) := by decide +kernel
theorem dX6_hear_129 : decode cX6_hear 129 = .ok (.iload 6, 2) := by decide +kernel
theorem dX6_hear_131 : decode cX6_hear 131 = .ok (.invokevirtual 213, 3) := by decide +kernel
theorem dX6_hear_134 : decode cX6_hear 134 = .ok (.iload 4, 2) := by decide +kernel
theorem dX6_hear_136 : decode cX6_hear 136 = .ok (.ifCond .ne 126, 3) := by decide +kernel
theorem dX6_hear_139 : decode cX6_hear 139 = .ok (.aload_n 0, 1) := by decide +kernel
theorem dX6_hear_140 : decode cX6_hear 140 = .ok (.aload_n 2, 1) := by decide +kernel
theorem dX6_hear_141 : decode cX6_hear 141 = .ok (.bipush 16, 2) := by decide +kernel
theorem dX6_hear_143 : decode cX6_hear 143 = .ok (.iload_n 3, 1) := by decide +kernel
theorem dX6_hear_144 : decode cX6_hear 144 = .ok (.imul, 1) := by decide +kernel
theorem dX6_hear_145 : decode cX6_hear 145 = .ok (.iconst 1, 1) := by decide +kernel
theorem dX6_hear_146 : decode cX6_hear 146 = .ok (.iadd, 1) := by decide +kernel
theorem dX6_hear_147 : decode cX6_hear 147 = .ok (.iload 6, 2) := by decide +kernel
theorem dX6_hear_149 : decode cX6_hear 149 = .ok (.aload_n 0, 1) := by decide +kernel
theorem dX6_hear_150 : decode cX6_hear 150 = .ok (.getfield 68, 3) := by decide +kernel
theorem dX6_hear_153 : decode cX6_hear 153 = .ok (.iconst 0, 1) := by decide +kernel
theorem dX6_hear_154 : decode cX6_hear 154 = .ok (.iaload, 1) := by decide +kernel
theorem dX6_hear_155 : decode cX6_hear 155 = .ok (.iadd, 1) := by decide +kernel
theorem dX6_hear_156 : decode cX6_hear 156 = .ok (.invokevirtual 213, 3) := by decide +kernel
theorem dX6_hear_159 : decode cX6_hear 159 = .ok (.goto 103, 3) := by decide +kernel
theorem dX6_hear_162 : decode cX6_hear 162 = .ok (.aload_n 0, 1) := by decide +kernel
theorem dX6_hear_163 : decode cX6_hear 163 = .ok (.iload_n 3, 1) := by decide +kernel
theorem dX6_hear_164 : decode cX6_hear 164 = .ok (.invokevirtual 203, 3) := by decide +kernel
theorem dX6_hear_167 : decode cX6_hear 167 = .ok (.iload 4, 2) := by decide +kernel
theorem dX6_hear_169 : decode cX6_hear 169 = .ok (.iconst (-1), 1) := by decide +kernel
theorem dX6_hear_170 : decode cX6_hear 170 = .ok (.ixor, 1) := by decide +kernel
theorem dX6_hear_171 : decode cX6_hear 171 = .ok (.iand, 1) := by decide +kernel
theorem dX6_hear_172 : decode cX6_hear 172 = .ok (.istore 7, 2) := by decide +kernel
theorem dX6_hear_174 : decode cX6_hear 174 = .ok (.iload 7, 2) := by decide +kernel
theorem dX6_hear_176 : decode cX6_hear 176 = .ok (.ifCond .eq 26, 3) := by decide +kernel
theorem dX6_hear_179 : decode cX6_hear 179 = .ok (.aload_n 0, 1) := by decide +kernel
theorem dX6_hear_180 : decode cX6_hear 180 = .ok (.aload_n 2, 1) := by decide +kernel
theorem dX6_hear_181 : decode cX6_hear 181 = .ok (.iload 5, 2) := by decide +kernel
theorem dX6_hear_183 : decode cX6_hear 183 = .ok (.iload 7, 2) := by decide +kernel
theorem dX6_hear_185 : decode cX6_hear 185 = .ok (.iload 7, 2) := by decide +kernel
theorem dX6_hear_187 : decode cX6_hear 187 = .ok (.ineg, 1) := by decide +kernel
theorem dX6_hear_188 : decode cX6_hear 188 = .ok (.iand, 1) := by decide +kernel
theorem dX6_hear_189 : decode cX6_hear 189 = .ok (.ior, 1) := by decide +kernel
theorem dX6_hear_190 : decode cX6_hear 190 = .ok (.iload 6, 2) := by decide +kernel
theorem dX6_hear_192 : decode cX6_hear 192 = .ok (.aload_n 0, 1) := by decide +kernel
theorem dX6_hear_193 : decode cX6_hear 193 = .ok (.getfield 68, 3) := by decide +kernel
theorem dX6_hear_196 : decode cX6_hear 196 = .ok (.iconst 0, 1) := by decide +kernel
theorem dX6_hear_197 : decode cX6_hear 197 = .ok (.iaload, 1) := by decide +kernel
theorem dX6_hear_198 : decode cX6_hear 198 = .ok (.iadd, 1) := by decide +kernel
theorem dX6_hear_199 : decode cX6_hear 199 = .ok (.invokevirtual 213, 3) := by decide +kernel
theorem dX6_hear_202 : decode cX6_hear 202 = .ok (.iconst 0, 1) := by decide +kernel
theorem dX6_hear_203 : decode cX6_hear 203 = .ok (.istore 8, 2) := by decide +kernel
theorem dX6_hear_205 : decode cX6_hear 205 = .ok (.iload 8, 2) := by decide +kernel
theorem dX6_hear_207 : decode cX6_hear 207 = .ok (.aload_n 0, 1) := by decide +kernel
theorem dX6_hear_208 : decode cX6_hear 208 = .ok (.getfield 20, 3) := by decide +kernel
theorem dX6_hear_211 : decode cX6_hear 211 = .ok (.iload_n 3, 1) := by decide +kernel
theorem dX6_hear_212 : decode cX6_hear 212 = .ok (.iaload, 1) := by decide +kernel
theorem dX6_hear_213 : decode cX6_hear 213 = .ok (.if_icmp .ge 49, 3) := by decide +kernel
theorem dX6_hear_216 : decode cX6_hear 216 = .ok (.iload 7, 2) := by decide +kernel
theorem dX6_hear_218 : decode cX6_hear 218 = .ok (.iload 8, 2) := by decide +kernel
theorem dX6_hear_220 : decode cX6_hear 220 = .ok (.ishr, 1) := by decide +kernel
theorem dX6_hear_221 : decode cX6_hear 221 = .ok (.iconst 1, 1) := by decide +kernel
theorem dX6_hear_222 : decode cX6_hear 222 = .ok (.iand, 1) := by decide +kernel
theorem dX6_hear_223 : decode cX6_hear 223 = .ok (.iconst 1, 1) := by decide +kernel
theorem dX6_hear_224 : decode cX6_hear 224 = .ok (.if_icmp .ne 32, 3) := by decide +kernel
theorem dX6_hear_227 : decode cX6_hear 227 = .ok (.aload_n 0, 1) := by decide +kernel
theorem dX6_hear_228 : decode cX6_hear 228 = .ok (.getfield 23, 3) := by decide +kernel
theorem dX6_hear_231 : decode cX6_hear 231 = .ok (.iconst 4, 1) := by decide +kernel
theorem dX6_hear_232 : decode cX6_hear 232 = .ok (.iload_n 3, 1) := by decide +kernel
theorem dX6_hear_233 : decode cX6_hear 233 = .ok (.imul, 1) := by decide +kernel
theorem dX6_hear_234 : decode cX6_hear 234 = .ok (.iload 8, 2) := by decide +kernel
theorem dX6_hear_236 : decode cX6_hear 236 = .ok (.iadd, 1) := by decide +kernel
theorem dX6_hear_237 : decode cX6_hear 237 = .ok (.iaload, 1) := by decide +kernel
theorem dX6_hear_238 : decode cX6_hear 238 = .ok (.iload_n 1, 1) := by decide +kernel
theorem dX6_hear_239 : decode cX6_hear 239 = .ok (.if_icmp .ne 17, 3) := by decide +kernel
theorem dX6_hear_242 : decode cX6_hear 242 = .ok (.aload_n 0, 1) := by decide +kernel
theorem dX6_hear_243 : decode cX6_hear 243 = .ok (.aload_n 2, 1) := by decide +kernel
theorem dX6_hear_244 : decode cX6_hear 244 = .ok (.iload 5, 2) := by decide +kernel
theorem dX6_hear_246 : decode cX6_hear 246 = .ok (.iconst 1, 1) := by decide +kernel
theorem dX6_hear_247 : decode cX6_hear 247 = .ok (.iload 8, 2) := by decide +kernel
theorem dX6_hear_249 : decode cX6_hear 249 = .ok (.ishl, 1) := by decide +kernel
theorem dX6_hear_250 : decode cX6_hear 250 = .ok (.ior, 1) := by decide +kernel
theorem dX6_hear_251 : decode cX6_hear 251 = .ok (.iload 6, 2) := by decide +kernel
theorem dX6_hear_253 : decode cX6_hear 253 = .ok (.invokevirtual 213, 3) := by decide +kernel
theorem dX6_hear_256 : decode cX6_hear 256 = .ok (.iinc 8 1, 3) := by decide +kernel
theorem dX6_hear_259 : decode cX6_hear 259 = .ok (.goto (-54), 3) := by decide +kernel
theorem dX6_hear_262 : decode cX6_hear 262 = .ok (.iinc 4 1, 3) := by decide +kernel
theorem dX6_hear_265 : decode cX6_hear 265 = .ok (.goto (-232), 3) := by decide +kernel
theorem dX6_hear_268 : decode cX6_hear 268 = .ok (.iinc 3 1, 3) := by decide +kernel
theorem dX6_hear_271 : decode cX6_hear 271 = .ok (.goto (-249), 3) := by decide +kernel
theorem dX6_hear_274 : decode cX6_hear 274 = .ok (.return_, 1) := by decide +kernel
set_option maxRecDepth 20000 in
theorem ggX6_findPlace_X6_full : GoodIn wsX6_findPlace wsX6_full := goodIn_r _ [10, 11, 12, 13, 14, 15, 16, 17, 18, 19, 20, 21, 22, 23, 24, 25, 26, 27, 28, 29, 30, 31, 32, 33, 34, 35, 36, 37, 38, 39, 40, 41, 42, 43, 44, 45, 46, 47, 48, 49, 50, 51, 52, 53, 54, 55, 56] rfl (by decide +kernel)
set_option maxRecDepth 20000 in
theorem gX6_findPlace_X6_full : GoodIn wsX6_findPlace (wsV RX6 203 RX6 yX6_full wsX6_full) := goodIn_app (goodIn_of _ (by decide +kernel)) ggX6_findPlace_X6_full
theorem dX6_findPlace_0 : decode cX6_findPlace 0 = .ok (.ldc 202, 2) := by decide +kernel
theorem dX6_findPlace_2 : decode cX6_findPlace 2 = .ok (.istore_n 2, 1) := by decide +kernel
theorem dX6_findPlace_3 : decode cX6_findPlace 3 = .ok (.iconst 0, 1) := by decide +kernel
theorem dX6_findPlace_4 : decode cX6_findPlace 4 = .ok (.istore_n 3, 1) := by decide +kernel
theorem dX6_findPlace_5 : decode cX6_findPlace 5 = .ok (.iload_n 3, 1) := by decide +kernel
theorem dX6_findPlace_6 : decode cX6_findPlace 6 = .ok (.aload_n 0, 1) := by decide +kernel
theorem dX6_findPlace_7 : decode cX6_findPlace 7 = .ok (.getfield 144, 3) := by decide +kernel
theorem dX6_findPlace_10 : decode cX6_findPlace 10 = .ok (.if_icmp .ge 79, 3) := by decide +kernel
theorem dX6_findPlace_13 : decode cX6_findPlace 13 = .ok (.iconst 0, 1) := by decide +kernel
theorem dX6_findPlace_14 : decode cX6_findPlace 14 = .ok (.istore 4, 2) := by decide +kernel
theorem dX6_findPlace_16 : decode cX6_findPlace 16 = .ok (.iload 4, 2) := by decide +kernel
theorem dX6_findPlace_18 : decode cX6_findPlace 18 = .ok (.aload_n 0, 1) := by decide +kernel
theorem dX6_findPlace_19 : decode cX6_findPlace 19 = .ok (.iload_n 3, 1) := by decide +kernel
theorem dX6_findPlace_20 : decode cX6_findPlace 20 = .ok (.invokevirtual 203, 3) := by decide +kernel
theorem dX6_findPlace_23 : decode cX6_findPlace 23 = .ok (.if_icmp .gt 60, 3) := by decide +kernel
theorem dX6_findPlace_26 : decode cX6_findPlace 26 = .ok (.aload_n 0, 1) := by decide +kernel
theorem dX6_findPlace_27 : decode cX6_findPlace 27 = .ok (.getfield 62, 3) := by decide +kernel
theorem dX6_findPlace_30 : decode cX6_findPlace 30 = .ok (.iload_n 1, 1) := by decide +kernel
theorem dX6_findPlace_31 : decode cX6_findPlace 31 = .ok (.aaload, 1) := by decide +kernel
theorem dX6_findPlace_32 : decode cX6_findPlace 32 = .ok (.bipush 16, 2) := by decide +kernel
theorem dX6_findPlace_34 : decode cX6_findPlace 34 = .ok (.iload_n 3, 1) := by decide +kernel
theorem dX6_findPlace_35 : decode cX6_findPlace 35 = .ok (.imul, 1) := by decide +kernel
theorem dX6_findPlace_36 : decode cX6_findPlace 36 = .ok (.iload 4, 2) := by decide +kernel
theorem dX6_findPlace_38 : decode cX6_findPlace 38 = .ok (.iadd, 1) := by decide +kernel
theorem dX6_findPlace_39 : decode cX6_findPlace 39 = .ok (.iaload, 1) := by decide +kernel
theorem dX6_findPlace_40 : decode cX6_findPlace 40 = .ok (.iload_n 2, 1) := by decide +kernel
theorem dX6_findPlace_41 : decode cX6_findPlace 41 = .ok (.if_icmp .lt 6, 3) := by decide +kernel
theorem dX6_findPlace_44 : decode cX6_findPlace 44 = .ok (.goto 33, 3) := by decide +kernel
theorem dX6_findPlace_47 : decode cX6_findPlace 47 = .ok (.aload_n 0, 1) := by decide +kernel
theorem dX6_findPlace_48 : decode cX6_findPlace 48 = .ok (.getfield 62, 3) := by decide +kernel
theorem dX6_findPlace_51 : decode cX6_findPlace 51 = .ok (.iload_n 1, 1) := by decide +kernel
theorem dX6_findPlace_52 : decode cX6_findPlace 52 = .ok (.aaload, 1) := by decide +kernel
theorem dX6_findPlace_53 : decode cX6_findPlace 53 = .ok (.bipush 16, 2) := by decide +kernel
theorem dX6_findPlace_55 : decode cX6_findPlace 55 = .ok (.iload_n 3, 1) := by decide +kernel
theorem dX6_findPlace_56 : decode cX6_findPlace 56 = .ok (.imul, 1) := by decide +kernel
theorem dX6_findPlace_57 : decode cX6_findPlace 57 = .ok (.iload 4, 2) := by decide +kernel
theorem dX6_findPlace_59 : decode cX6_findPlace 59 = .ok (.iadd, 1) := by decide +kernel
theorem dX6_findPlace_60 : decode cX6_findPlace 60 = .ok (.iaload, 1) := by decide +kernel
theorem dX6_findPlace_61 : decode cX6_findPlace 61 = .ok (.istore_n 2, 1) := by decide +kernel
theorem dX6_findPlace_62 : decode cX6_findPlace 62 = .ok (.aload_n 0, 1) := by decide +kernel
theorem dX6_findPlace_63 : decode cX6_findPlace 63 = .ok (.getfield 54, 3) := by decide +kernel
theorem dX6_findPlace_66 : decode cX6_findPlace 66 = .ok (.iload_n 1, 1) := by decide +kernel
theorem dX6_findPlace_67 : decode cX6_findPlace 67 = .ok (.iload_n 3, 1) := by decide +kernel
theorem dX6_findPlace_68 : decode cX6_findPlace 68 = .ok (.iastore, 1) := by decide +kernel
theorem dX6_findPlace_69 : decode cX6_findPlace 69 = .ok (.aload_n 0, 1) := by decide +kernel
theorem dX6_findPlace_70 : decode cX6_findPlace 70 = .ok (.getfield 57, 3) := by decide +kernel
theorem dX6_findPlace_73 : decode cX6_findPlace 73 = .ok (.iload_n 1, 1) := by decide +kernel
theorem dX6_findPlace_74 : decode cX6_findPlace 74 = .ok (.iload 4, 2) := by decide +kernel
theorem dX6_findPlace_76 : decode cX6_findPlace 76 = .ok (.iastore, 1) := by decide +kernel
theorem dX6_findPlace_77 : decode cX6_findPlace 77 = .ok (.iinc 4 1, 3) := by decide +kernel
theorem dX6_findPlace_80 : decode cX6_findPlace 80 = .ok (.goto (-64), 3) := by decide +kernel
theorem dX6_findPlace_83 : decode cX6_findPlace 83 = .ok (.iinc 3 1, 3) := by decide +kernel
theorem dX6_findPlace_86 : decode cX6_findPlace 86 = .ok (.goto (-81), 3) := by decide +kernel
theorem dX6_findPlace_89 : decode cX6_findPlace 89 = .ok (.return_, 1) := by decide +kernel
theorem dX6_anchor_0 : decode cX6_anchor 0 = .ok (.aload_n 0, 1) := by decide +kernel
theorem dX6_anchor_1 : decode cX6_anchor 1 = .ok (.iconst 0, 1) := by decide +kernel
theorem dX6_anchor_2 : decode cX6_anchor 2 = .ok (.putfield 199, 3) := by decide +kernel
theorem dX6_anchor_5 : decode cX6_anchor 5 = .ok (.iconst 0, 1) := by decide +kernel
theorem dX6_anchor_6 : decode cX6_anchor 6 = .ok (.istore_n 1, 1) := by decide +kernel
theorem dX6_anchor_7 : decode cX6_anchor 7 = .ok (.iload_n 1, 1) := by decide +kernel
theorem dX6_anchor_8 : decode cX6_anchor 8 = .ok (.aload_n 0, 1) := by decide +kernel
theorem dX6_anchor_9 : decode cX6_anchor 9 = .ok (.getfield 196, 3) := by decide +kernel
theorem dX6_anchor_12 : decode cX6_anchor 12 = .ok (.if_icmp .ge 97, 3) := by decide +kernel
theorem dX6_anchor_15 : decode cX6_anchor 15 = .ok (.aload_n 0, 1) := by decide +kernel
theorem dX6_anchor_16 : decode cX6_anchor 16 = .ok (.getfield 54, 3) := by decide +kernel
theorem dX6_anchor_19 : decode cX6_anchor 19 = .ok (.iload_n 1, 1) := by decide +kernel
theorem dX6_anchor_20 : decode cX6_anchor 20 = .ok (.iconst 1, 1) := by decide +kernel
theorem dX6_anchor_21 : decode cX6_anchor 21 = .ok (.iadd, 1) := by decide +kernel
theorem dX6_anchor_22 : decode cX6_anchor 22 = .ok (.iaload, 1) := by decide +kernel
theorem dX6_anchor_23 : decode cX6_anchor 23 = .ok (.istore_n 2, 1) := by decide +kernel
theorem dX6_anchor_24 : decode cX6_anchor 24 = .ok (.iload_n 1, 1) := by decide +kernel
theorem dX6_anchor_25 : decode cX6_anchor 25 = .ok (.ifCond .le 16, 3) := by decide +kernel
theorem dX6_anchor_28 : decode cX6_anchor 28 = .ok (.iload_n 2, 1) := by decide +kernel
theorem dX6_anchor_29 : decode cX6_anchor 29 = .ok (.aload_n 0, 1) := by decide +kernel
theorem dX6_anchor_30 : decode cX6_anchor 30 = .ok (.getfield 54, 3) := by decide +kernel
theorem dX6_anchor_33 : decode cX6_anchor 33 = .ok (.iload_n 1, 1) := by decide +kernel
theorem dX6_anchor_34 : decode cX6_anchor 34 = .ok (.iaload, 1) := by decide +kernel
theorem dX6_anchor_35 : decode cX6_anchor 35 = .ok (.if_icmp .ne 6, 3) := by decide +kernel
theorem dX6_anchor_38 : decode cX6_anchor 38 = .ok (.goto 65, 3) := by decide +kernel
theorem dX6_anchor_41 : decode cX6_anchor 41 = .ok (.aload_n 0, 1) := by decide +kernel
theorem dX6_anchor_42 : decode cX6_anchor 42 = .ok (.getfield 199, 3) := by decide +kernel
theorem dX6_anchor_45 : decode cX6_anchor 45 = .ok (.ifCond .le 23, 3) := by decide +kernel
theorem dX6_anchor_48 : decode cX6_anchor 48 = .ok (.iload_n 2, 1) := by decide +kernel
theorem dX6_anchor_49 : decode cX6_anchor 49 = .ok (.aload_n 0, 1) := by decide +kernel
theorem dX6_anchor_50 : decode cX6_anchor 50 = .ok (.getfield 71, 3) := by decide +kernel
theorem dX6_anchor_53 : decode cX6_anchor 53 = .ok (.aload_n 0, 1) := by decide +kernel
theorem dX6_anchor_54 : decode cX6_anchor 54 = .ok (.getfield 199, 3) := by decide +kernel
theorem dX6_anchor_57 : decode cX6_anchor 57 = .ok (.iconst 1, 1) := by decide +kernel
theorem dX6_anchor_58 : decode cX6_anchor 58 = .ok (.isub, 1) := by decide +kernel
theorem dX6_anchor_59 : decode cX6_anchor 59 = .ok (.iaload, 1) := by decide +kernel
theorem dX6_anchor_60 : decode cX6_anchor 60 = .ok (.if_icmp .ge 8, 3) := by decide +kernel
theorem dX6_anchor_63 : decode cX6_anchor 63 = .ok (.aload_n 0, 1) := by decide +kernel
theorem dX6_anchor_64 : decode cX6_anchor 64 = .ok (.iconst 0, 1) := by decide +kernel
theorem dX6_anchor_65 : decode cX6_anchor 65 = .ok (.putfield 199, 3) := by decide +kernel
theorem dX6_anchor_68 : decode cX6_anchor 68 = .ok (.aload_n 0, 1) := by decide +kernel
theorem dX6_anchor_69 : decode cX6_anchor 69 = .ok (.getfield 71, 3) := by decide +kernel
theorem dX6_anchor_72 : decode cX6_anchor 72 = .ok (.aload_n 0, 1) := by decide +kernel
theorem dX6_anchor_73 : decode cX6_anchor 73 = .ok (.getfield 199, 3) := by decide +kernel
theorem dX6_anchor_76 : decode cX6_anchor 76 = .ok (.iload_n 2, 1) := by decide +kernel
theorem dX6_anchor_77 : decode cX6_anchor 77 = .ok (.iastore, 1) := by decide +kernel
theorem dX6_anchor_78 : decode cX6_anchor 78 = .ok (.aload_n 0, 1) := by decide +kernel
theorem dX6_anchor_79 : decode cX6_anchor 79 = .ok (.getfield 74, 3) := by decide +kernel
theorem dX6_anchor_82 : decode cX6_anchor 82 = .ok (.aload_n 0, 1) := by decide +kernel
theorem dX6_anchor_83 : decode cX6_anchor 83 = .ok (.getfield 199, 3) := by decide +kernel
theorem dX6_anchor_86 : decode cX6_anchor 86 = .ok (.aload_n 0, 1) := by decide +kernel
theorem dX6_anchor_87 : decode cX6_anchor 87 = .ok (.getfield 51, 3) := by decide +kernel
theorem dX6_anchor_90 : decode cX6_anchor 90 = .ok (.iload_n 1, 1) := by decide +kernel
theorem dX6_anchor_91 : decode cX6_anchor 91 = .ok (.iaload, 1) := by decide +kernel
theorem dX6_anchor_92 : decode cX6_anchor 92 = .ok (.iastore, 1) := by decide +kernel
theorem dX6_anchor_93 : decode cX6_anchor 93 = .ok (.aload_n 0, 1) := by decide +kernel
theorem dX6_anchor_94 : decode cX6_anchor 94 = .ok (.dup, 1) := by decide +kernel
theorem dX6_anchor_95 : decode cX6_anchor 95 = .ok (.getfield 199, 3) := by decide +kernel
theorem dX6_anchor_98 : decode cX6_anchor 98 = .ok (.iconst 1, 1) := by decide +kernel
theorem dX6_anchor_99 : decode cX6_anchor 99 = .ok (.iadd, 1) := by decide +kernel
theorem dX6_anchor_100 : decode cX6_anchor 100 = .ok (.putfield 199, 3) := by decide +kernel
theorem dX6_anchor_103 : decode cX6_anchor 103 = .ok (.iinc 1 1, 3) := by decide +kernel
theorem dX6_anchor_106 : decode cX6_anchor 106 = .ok (.goto (-99), 3) := by decide +kernel
theorem dX6_anchor_109 : decode cX6_anchor 109 = .ok (.return_, 1) := by decide +kernel
set_option maxRecDepth 20000 in
theorem ggX6_heard_X6_fail : GoodIn wsX6_heard wsX6_fail := goodIn_r _ [12, 1, 60, 61, 62, 63, 64, 65, 66, 67, 68, 69, 70, 71, 72, 73, 74, 75, 76, 77, 78, 79, 80, 81, 82, 83, 84, 85, 86, 87, 88, 89, 90, 91, 92, 93, 94, 95, 96, 97, 98, 99, 100, 101, 102, 103, 104] rfl (by decide +kernel)
set_option maxRecDepth 20000 in
theorem gX6_heard_X6_fail : GoodIn wsX6_heard (wsV RX6 180 RX6 yX6_fail wsX6_fail) := goodIn_app (goodIn_of _ (by decide +kernel)) ggX6_heard_X6_fail
set_option maxRecDepth 20000 in
theorem ggX6_heard_X6_bringDown : GoodIn wsX6_heard wsX6_bringDown := goodIn_r _ [16, 17, 18, 3, 19, 20, 21, 22, 23, 24, 25, 26, 27, 28, 11, 29, 30, 31, 32, 33, 34, 35, 36, 37, 60, 61, 62, 63, 64, 65, 66, 67, 68, 69, 70, 71, 72, 73, 74, 75, 76, 77, 78, 79, 80, 81, 82, 83, 84, 85, 86, 87, 88, 89, 90, 91, 92, 93, 94, 95, 96, 97, 98, 99, 100, 101, 102, 103, 104] rfl (by decide +kernel)
set_option maxRecDepth 20000 in
theorem gX6_heard_X6_bringDown : GoodIn wsX6_heard (wsV RX6 218 RX6 yX6_bringDown wsX6_bringDown) := goodIn_app (goodIn_of _ (by decide +kernel)) ggX6_heard_X6_bringDown
set_option maxRecDepth 20000 in
theorem ggX6_heard_X6_hear : GoodIn wsX6_heard wsX6_hear := goodIn_r _ [41, 18, 3, 17, 23, 42, 43, 30, 26, 27, 28, 11, 29, 44, 45, 46, 47, 19, 20, 21, 22, 60, 61, 62, 63, 64, 65, 66, 67, 68, 69, 70, 71, 72, 73, 74, 75, 76, 77, 78, 79, 80, 81, 82, 83, 84, 85, 86, 87, 88, 89, 90, 91, 92, 93, 94, 95, 96, 97, 98, 99, 100, 101, 102, 103, 104] rfl (by decide +kernel)
set_option maxRecDepth 20000 in
theorem gX6_heard_X6_hear : GoodIn wsX6_heard (wsV RX6 222 RX6 yX6_hear wsX6_hear) := goodIn_app (goodIn_of _ (by decide +kernel)) ggX6_heard_X6_hear
set_option maxRecDepth 20000 in
theorem ggX6_heard_X6_findPlace : GoodIn wsX6_heard wsX6_findPlace := goodIn_r _ [51, 18, 3, 6, 7, 52, 26, 27, 28, 11, 29, 30, 60, 61, 62, 63, 64, 65, 66, 67, 68, 69, 70, 71, 72, 73, 74, 75, 76, 77, 78, 79, 80, 81, 82, 83, 84, 85, 86, 87, 88, 89, 90, 91, 92, 93, 94, 95, 96, 97, 98, 99, 100, 101, 102, 103, 104] rfl (by decide +kernel)
set_option maxRecDepth 20000 in
theorem gX6_heard_X6_findPlace : GoodIn wsX6_heard (wsV RX6 226 RX6 yX6_findPlace wsX6_findPlace) := goodIn_app (goodIn_of _ (by decide +kernel)) ggX6_heard_X6_findPlace
set_option maxRecDepth 20000 in
theorem ggX6_heard_X6_anchor : GoodIn wsX6_heard wsX6_anchor := goodIn_r _ [56, 57, 4, 7, 58, 59, 5, 60, 61, 62, 63, 64, 65, 66, 67, 68, 69, 70, 71, 72, 73, 74, 75, 76, 77, 78, 79, 80, 81, 82, 83, 84, 85, 86, 87, 88, 89, 90, 91, 92, 93, 94, 95, 96, 97, 98, 99, 100, 101, 102, 103, 104] rfl (by decide +kernel)
set_option maxRecDepth 20000 in
theorem gX6_heard_X6_anchor : GoodIn wsX6_heard (wsV RX6 229 RX6 yX6_anchor wsX6_anchor) := goodIn_app (goodIn_of _ (by decide +kernel)) ggX6_heard_X6_anchor
theorem dX6_heard_0 : decode cX6_heard 0 = .ok (.aload_n 0, 1) := by decide +kernel
theorem dX6_heard_1 : decode cX6_heard 1 = .ok (.iconst 0, 1) := by decide +kernel
theorem dX6_heard_2 : decode cX6_heard 2 = .ok (.putfield 80, 3) := by decide +kernel
theorem dX6_heard_5 : decode cX6_heard 5 = .ok (.iload_n 1, 1) := by decide +kernel
theorem dX6_heard_6 : decode cX6_heard 6 = .ok (.ifCond .lt 19, 3) := by decide +kernel
theorem dX6_heard_9 : decode cX6_heard 9 = .ok (.iload_n 1, 1) := by decide +kernel
theorem dX6_heard_10 : decode cX6_heard 10 = .ok (.bipush 127, 2) := by decide +kernel
theorem dX6_heard_12 : decode cX6_heard 12 = .ok (.if_icmp .gt 13, 3) := by decide +kernel
theorem dX6_heard_15 : decode cX6_heard 15 = .ok (.iload_n 2, 1) := by decide +kernel
theorem dX6_heard_16 : decode cX6_heard 16 = .ok (.ifCond .lt 9, 3) := by decide +kernel
theorem dX6_heard_19 : decode cX6_heard 19 = .ok (.iload_n 2, 1) := by decide +kernel
theorem dX6_heard_20 : decode cX6_heard 20 = .ok (.ldc 217, 2) := by decide +kernel
theorem dX6_heard_22 : decode cX6_heard 22 = .ok (.if_icmp .le 8, 3) := by decide +kernel
theorem dX6_heard_25 : decode cX6_heard 25 = .ok (.aload_n 0, 1) := by decide +kernel
theorem dX6_heard_26 : decode cX6_heard 26 = .ok (.invokevirtual 180, 3) := by decide +kernel
theorem dX6_heard_29 : decode cX6_heard 29 = .ok (.ireturn, 1) := by decide +kernel
theorem dX6_heard_30 : decode cX6_heard 30 = .ok (.aload_n 0, 1) := by decide +kernel
theorem dX6_heard_31 : decode cX6_heard 31 = .ok (.getfield 144, 3) := by decide +kernel
theorem dX6_heard_34 : decode cX6_heard 34 = .ok (.ifCond .eq 35, 3) := by decide +kernel
theorem dX6_heard_37 : decode cX6_heard 37 = .ok (.aload_n 0, 1) := by decide +kernel
theorem dX6_heard_38 : decode cX6_heard 38 = .ok (.getfield 196, 3) := by decide +kernel
theorem dX6_heard_41 : decode cX6_heard 41 = .ok (.sipush 400, 3) := by decide +kernel
theorem dX6_heard_44 : decode cX6_heard 44 = .ok (.if_icmp .eq 25, 3) := by decide +kernel
theorem dX6_heard_47 : decode cX6_heard 47 = .ok (.aload_n 0, 1) := by decide +kernel
theorem dX6_heard_48 : decode cX6_heard 48 = .ok (.getfield 196, 3) := by decide +kernel
theorem dX6_heard_51 : decode cX6_heard 51 = .ok (.ifCond .le 20, 3) := by decide +kernel
theorem dX6_heard_54 : decode cX6_heard 54 = .ok (.iload_n 2, 1) := by decide +kernel
theorem dX6_heard_55 : decode cX6_heard 55 = .ok (.aload_n 0, 1) := by decide +kernel
theorem dX6_heard_56 : decode cX6_heard 56 = .ok (.getfield 51, 3) := by decide +kernel
theorem dX6_heard_59 : decode cX6_heard 59 = .ok (.aload_n 0, 1) := by decide +kernel
theorem dX6_heard_60 : decode cX6_heard 60 = .ok (.getfield 196, 3) := by decide +kernel
theorem dX6_heard_63 : decode cX6_heard 63 = .ok (.iconst 1, 1) := by decide +kernel
theorem dX6_heard_64 : decode cX6_heard 64 = .ok (.isub, 1) := by decide +kernel
theorem dX6_heard_65 : decode cX6_heard 65 = .ok (.iaload, 1) := by decide +kernel
theorem dX6_heard_66 : decode cX6_heard 66 = .ok (.if_icmp .ge 5, 3) := by decide +kernel
theorem dX6_heard_69 : decode cX6_heard 69 = .ok (.iconst (-1), 1) := by decide +kernel
theorem dX6_heard_70 : decode cX6_heard 70 = .ok (.ireturn, 1) := by decide +kernel
theorem dX6_heard_71 : decode cX6_heard 71 = .ok (.aload_n 0, 1) := by decide +kernel
theorem dX6_heard_72 : decode cX6_heard 72 = .ok (.aload_n 0, 1) := by decide +kernel
theorem dX6_heard_73 : decode cX6_heard 73 = .ok (.getfield 62, 3) := by decide +kernel
theorem dX6_heard_76 : decode cX6_heard 76 = .ok (.aload_n 0, 1) := by decide +kernel
theorem dX6_heard_77 : decode cX6_heard 77 = .ok (.getfield 196, 3) := by decide +kernel
theorem dX6_heard_80 : decode cX6_heard 80 = .ok (.aaload, 1) := by decide +kernel
theorem dX6_heard_81 : decode cX6_heard 81 = .ok (.invokevirtual 218, 3) := by decide +kernel
theorem dX6_heard_84 : decode cX6_heard 84 = .ok (.aload_n 0, 1) := by decide +kernel
theorem dX6_heard_85 : decode cX6_heard 85 = .ok (.iload_n 1, 1) := by decide +kernel
theorem dX6_heard_86 : decode cX6_heard 86 = .ok (.aload_n 0, 1) := by decide +kernel
theorem dX6_heard_87 : decode cX6_heard 87 = .ok (.getfield 62, 3) := by decide +kernel
theorem dX6_heard_90 : decode cX6_heard 90 = .ok (.aload_n 0, 1) := by decide +kernel
theorem dX6_heard_91 : decode cX6_heard 91 = .ok (.getfield 196, 3) := by decide +kernel
theorem dX6_heard_94 : decode cX6_heard 94 = .ok (.iconst 1, 1) := by decide +kernel
theorem dX6_heard_95 : decode cX6_heard 95 = .ok (.iadd, 1) := by decide +kernel
theorem dX6_heard_96 : decode cX6_heard 96 = .ok (.aaload, 1) := by decide +kernel
theorem dX6_heard_97 : decode cX6_heard 97 = .ok (.invokevirtual 222, 3) := by decide +kernel
theorem dX6_heard_100 : decode cX6_heard 100 = .ok (.aload_n 0, 1) := by decide +kernel
theorem dX6_heard_101 : decode cX6_heard 101 = .ok (.getfield 51, 3) := by decide +kernel
theorem dX6_heard_104 : decode cX6_heard 104 = .ok (.aload_n 0, 1) := by decide +kernel
theorem dX6_heard_105 : decode cX6_heard 105 = .ok (.getfield 196, 3) := by decide +kernel
theorem dX6_heard_108 : decode cX6_heard 108 = .ok (.iload_n 2, 1) := by decide +kernel
theorem dX6_heard_109 : decode cX6_heard 109 = .ok (.iastore, 1) := by decide +kernel
theorem dX6_heard_110 : decode cX6_heard 110 = .ok (.aload_n 0, 1) := by decide +kernel
theorem dX6_heard_111 : decode cX6_heard 111 = .ok (.dup, 1) := by decide +kernel
theorem dX6_heard_112 : decode cX6_heard 112 = .ok (.getfield 196, 3) := by decide +kernel
theorem dX6_heard_115 : decode cX6_heard 115 = .ok (.iconst 1, 1) := by decide +kernel
theorem dX6_heard_116 : decode cX6_heard 116 = .ok (.iadd, 1) := by decide +kernel
theorem dX6_heard_117 : decode cX6_heard 117 = .ok (.putfield 196, 3) := by decide +kernel
theorem dX6_heard_120 : decode cX6_heard 120 = .ok (.aload_n 0, 1) := by decide +kernel
theorem dX6_heard_121 : decode cX6_heard 121 = .ok (.aload_n 0, 1) := by decide +kernel
theorem dX6_heard_122 : decode cX6_heard 122 = .ok (.getfield 196, 3) := by decide +kernel
theorem dX6_heard_125 : decode cX6_heard 125 = .ok (.invokevirtual 226, 3) := by decide +kernel
theorem dX6_heard_128 : decode cX6_heard 128 = .ok (.aload_n 0, 1) := by decide +kernel
theorem dX6_heard_129 : decode cX6_heard 129 = .ok (.invokevirtual 229, 3) := by decide +kernel
theorem dX6_heard_132 : decode cX6_heard 132 = .ok (.aload_n 0, 1) := by decide +kernel
theorem dX6_heard_133 : decode cX6_heard 133 = .ok (.getfield 54, 3) := by decide +kernel
theorem dX6_heard_136 : decode cX6_heard 136 = .ok (.aload_n 0, 1) := by decide +kernel
theorem dX6_heard_137 : decode cX6_heard 137 = .ok (.getfield 196, 3) := by decide +kernel
theorem dX6_heard_140 : decode cX6_heard 140 = .ok (.iaload, 1) := by decide +kernel
theorem dX6_heard_141 : decode cX6_heard 141 = .ok (.ireturn, 1) := by decide +kernel
set_option maxRecDepth 20000 in
theorem ggX6_back_X6_anchor : GoodIn wsX6_back wsX6_anchor := goodIn_r _ [7, 8, 2, 9, 10, 11, 12, 13, 14, 15, 16, 17, 18, 19, 20, 21, 22, 23, 24, 25, 26, 27, 28, 29, 30, 31, 32, 33, 34, 35, 36, 37, 38, 39, 40, 41, 42, 43, 44, 45, 46, 47, 48, 49, 50, 51, 52, 53, 54, 55, 56, 57] rfl (by decide +kernel)
set_option maxRecDepth 20000 in
theorem gX6_back_X6_anchor : GoodIn wsX6_back (wsV RX6 229 RX6 yX6_anchor wsX6_anchor) := goodIn_app (goodIn_of _ (by decide +kernel)) ggX6_back_X6_anchor
theorem dX6_back_0 : decode cX6_back 0 = .ok (.aload_n 0, 1) := by decide +kernel
theorem dX6_back_1 : decode cX6_back 1 = .ok (.iconst 0, 1) := by decide +kernel
theorem dX6_back_2 : decode cX6_back 2 = .ok (.putfield 80, 3) := by decide +kernel
theorem dX6_back_5 : decode cX6_back 5 = .ok (.aload_n 0, 1) := by decide +kernel
theorem dX6_back_6 : decode cX6_back 6 = .ok (.getfield 196, 3) := by decide +kernel
theorem dX6_back_9 : decode cX6_back 9 = .ok (.ifCond .ne 5, 3) := by decide +kernel
theorem dX6_back_12 : decode cX6_back 12 = .ok (.iconst (-1), 1) := by decide +kernel
theorem dX6_back_13 : decode cX6_back 13 = .ok (.ireturn, 1) := by decide +kernel
theorem dX6_back_14 : decode cX6_back 14 = .ok (.aload_n 0, 1) := by decide +kernel
theorem dX6_back_15 : decode cX6_back 15 = .ok (.dup, 1) := by decide +kernel
theorem dX6_back_16 : decode cX6_back 16 = .ok (.getfield 196, 3) := by decide +kernel
theorem dX6_back_19 : decode cX6_back 19 = .ok (.iconst 1, 1) := by decide +kernel
theorem dX6_back_20 : decode cX6_back 20 = .ok (.isub, 1) := by decide +kernel
theorem dX6_back_21 : decode cX6_back 21 = .ok (.putfield 196, 3) := by decide +kernel
theorem dX6_back_24 : decode cX6_back 24 = .ok (.aload_n 0, 1) := by decide +kernel
theorem dX6_back_25 : decode cX6_back 25 = .ok (.invokevirtual 229, 3) := by decide +kernel
theorem dX6_back_28 : decode cX6_back 28 = .ok (.aload_n 0, 1) := by decide +kernel
theorem dX6_back_29 : decode cX6_back 29 = .ok (.getfield 196, 3) := by decide +kernel
theorem dX6_back_32 : decode cX6_back 32 = .ok (.ireturn, 1) := by decide +kernel
set_option maxRecDepth 20000 in
theorem ggX6_again_X6_begin : GoodIn wsX6_again wsX6_begin := goodIn_r _ [7, 2, 8, 9, 10, 11, 12, 13, 14, 15, 16, 17, 18, 19, 20, 21, 22, 23, 24, 25, 26, 27, 28, 29, 30, 31, 32, 33, 34, 35, 36, 37, 38, 39, 40, 41, 42, 43, 44, 45, 46, 47, 48, 49, 50, 51, 52, 53, 54, 55, 56, 57] rfl (by decide +kernel)
set_option maxRecDepth 20000 in
theorem gX6_again_X6_begin : GoodIn wsX6_again (wsV RX6 193 RX6 yX6_begin wsX6_begin) := goodIn_app (goodIn_of _ (by decide +kernel)) ggX6_again_X6_begin
theorem dX6_again_0 : decode cX6_again 0 = .ok (.aload_n 0, 1) := by decide +kernel
theorem dX6_again_1 : decode cX6_again 1 = .ok (.iconst 0, 1) := by decide +kernel
theorem dX6_again_2 : decode cX6_again 2 = .ok (.putfield 80, 3) := by decide +kernel
theorem dX6_again_5 : decode cX6_again 5 = .ok (.aload_n 0, 1) := by decide +kernel
theorem dX6_again_6 : decode cX6_again 6 = .ok (.getfield 196, 3) := by decide +kernel
theorem dX6_again_9 : decode cX6_again 9 = .ok (.istore_n 1, 1) := by decide +kernel
theorem dX6_again_10 : decode cX6_again 10 = .ok (.aload_n 0, 1) := by decide +kernel
theorem dX6_again_11 : decode cX6_again 11 = .ok (.invokevirtual 193, 3) := by decide +kernel
theorem dX6_again_14 : decode cX6_again 14 = .ok (.iload_n 1, 1) := by decide +kernel
theorem dX6_again_15 : decode cX6_again 15 = .ok (.ireturn, 1) := by decide +kernel
set_option maxRecDepth 20000 in
theorem ggX6_place_X6_fail : GoodIn wsX6_place wsX6_fail := goodIn_r _ [13, 1, 14, 15, 16, 17, 18, 19, 20, 21, 22, 23, 24, 25, 26, 27, 28, 29, 30, 31, 32, 33, 34, 35, 36, 37, 38, 39, 40, 41, 42, 43, 44, 45, 46, 47, 48, 49, 50, 51, 52, 53, 54, 55, 56, 57, 58] rfl (by decide +kernel)
set_option maxRecDepth 20000 in
theorem gX6_place_X6_fail : GoodIn wsX6_place (wsV RX6 180 RX6 yX6_fail wsX6_fail) := goodIn_app (goodIn_of _ (by decide +kernel)) ggX6_place_X6_fail
theorem dX6_place_0 : decode cX6_place 0 = .ok (.aload_n 0, 1) := by decide +kernel
theorem dX6_place_1 : decode cX6_place 1 = .ok (.iconst 0, 1) := by decide +kernel
theorem dX6_place_2 : decode cX6_place 2 = .ok (.putfield 80, 3) := by decide +kernel
theorem dX6_place_5 : decode cX6_place 5 = .ok (.aload_n 0, 1) := by decide +kernel
theorem dX6_place_6 : decode cX6_place 6 = .ok (.getfield 144, 3) := by decide +kernel
theorem dX6_place_9 : decode cX6_place 9 = .ok (.ifCond .eq 12, 3) := by decide +kernel
theorem dX6_place_12 : decode cX6_place 12 = .ok (.iload_n 1, 1) := by decide +kernel
theorem dX6_place_13 : decode cX6_place 13 = .ok (.ifCond .lt 8, 3) := by decide +kernel
theorem dX6_place_16 : decode cX6_place 16 = .ok (.iload_n 1, 1) := by decide +kernel
theorem dX6_place_17 : decode cX6_place 17 = .ok (.iconst 4, 1) := by decide +kernel
theorem dX6_place_18 : decode cX6_place 18 = .ok (.if_icmp .le 8, 3) := by decide +kernel
theorem dX6_place_21 : decode cX6_place 21 = .ok (.aload_n 0, 1) := by decide +kernel
theorem dX6_place_22 : decode cX6_place 22 = .ok (.invokevirtual 180, 3) := by decide +kernel
theorem dX6_place_25 : decode cX6_place 25 = .ok (.ireturn, 1) := by decide +kernel
theorem dX6_place_26 : decode cX6_place 26 = .ok (.aload_n 0, 1) := by decide +kernel
theorem dX6_place_27 : decode cX6_place 27 = .ok (.getfield 54, 3) := by decide +kernel
theorem dX6_place_30 : decode cX6_place 30 = .ok (.aload_n 0, 1) := by decide +kernel
theorem dX6_place_31 : decode cX6_place 31 = .ok (.getfield 196, 3) := by decide +kernel
theorem dX6_place_34 : decode cX6_place 34 = .ok (.iaload, 1) := by decide +kernel
theorem dX6_place_35 : decode cX6_place 35 = .ok (.istore_n 2, 1) := by decide +kernel
theorem dX6_place_36 : decode cX6_place 36 = .ok (.iload_n 1, 1) := by decide +kernel
theorem dX6_place_37 : decode cX6_place 37 = .ok (.tableswitch 75 0 3 #[31, 33, 43, 68], 31) := by decide +kernel
theorem dX6_place_68 : decode cX6_place 68 = .ok (.iload_n 2, 1) := by decide +kernel
theorem dX6_place_69 : decode cX6_place 69 = .ok (.ireturn, 1) := by decide +kernel
theorem dX6_place_70 : decode cX6_place 70 = .ok (.aload_n 0, 1) := by decide +kernel
theorem dX6_place_71 : decode cX6_place 71 = .ok (.getfield 57, 3) := by decide +kernel
theorem dX6_place_74 : decode cX6_place 74 = .ok (.aload_n 0, 1) := by decide +kernel
theorem dX6_place_75 : decode cX6_place 75 = .ok (.getfield 196, 3) := by decide +kernel
theorem dX6_place_78 : decode cX6_place 78 = .ok (.iaload, 1) := by decide +kernel
theorem dX6_place_79 : decode cX6_place 79 = .ok (.ireturn, 1) := by decide +kernel
theorem dX6_place_80 : decode cX6_place 80 = .ok (.aload_n 0, 1) := by decide +kernel
theorem dX6_place_81 : decode cX6_place 81 = .ok (.getfield 62, 3) := by decide +kernel
theorem dX6_place_84 : decode cX6_place 84 = .ok (.aload_n 0, 1) := by decide +kernel
theorem dX6_place_85 : decode cX6_place 85 = .ok (.getfield 196, 3) := by decide +kernel
theorem dX6_place_88 : decode cX6_place 88 = .ok (.aaload, 1) := by decide +kernel
theorem dX6_place_89 : decode cX6_place 89 = .ok (.bipush 16, 2) := by decide +kernel
theorem dX6_place_91 : decode cX6_place 91 = .ok (.iload_n 2, 1) := by decide +kernel
theorem dX6_place_92 : decode cX6_place 92 = .ok (.imul, 1) := by decide +kernel
theorem dX6_place_93 : decode cX6_place 93 = .ok (.aload_n 0, 1) := by decide +kernel
theorem dX6_place_94 : decode cX6_place 94 = .ok (.getfield 57, 3) := by decide +kernel
theorem dX6_place_97 : decode cX6_place 97 = .ok (.aload_n 0, 1) := by decide +kernel
theorem dX6_place_98 : decode cX6_place 98 = .ok (.getfield 196, 3) := by decide +kernel
theorem dX6_place_101 : decode cX6_place 101 = .ok (.iaload, 1) := by decide +kernel
theorem dX6_place_102 : decode cX6_place 102 = .ok (.iadd, 1) := by decide +kernel
theorem dX6_place_103 : decode cX6_place 103 = .ok (.iaload, 1) := by decide +kernel
theorem dX6_place_104 : decode cX6_place 104 = .ok (.ireturn, 1) := by decide +kernel
theorem dX6_place_105 : decode cX6_place 105 = .ok (.aload_n 0, 1) := by decide +kernel
theorem dX6_place_106 : decode cX6_place 106 = .ok (.getfield 32, 3) := by decide +kernel
theorem dX6_place_109 : decode cX6_place 109 = .ok (.iload_n 2, 1) := by decide +kernel
theorem dX6_place_110 : decode cX6_place 110 = .ok (.iaload, 1) := by decide +kernel
theorem dX6_place_111 : decode cX6_place 111 = .ok (.ireturn, 1) := by decide +kernel
theorem dX6_place_112 : decode cX6_place 112 = .ok (.aload_n 0, 1) := by decide +kernel
theorem dX6_place_113 : decode cX6_place 113 = .ok (.getfield 35, 3) := by decide +kernel
theorem dX6_place_116 : decode cX6_place 116 = .ok (.iload_n 2, 1) := by decide +kernel
theorem dX6_place_117 : decode cX6_place 117 = .ok (.iaload, 1) := by decide +kernel
theorem dX6_place_118 : decode cX6_place 118 = .ok (.ireturn, 1) := by decide +kernel
set_option maxRecDepth 20000 in
theorem ggX6_cost_X6_full : GoodIn wsX6_cost wsX6_full := goodIn_r _ [10, 11, 16, 17, 18, 19, 20, 21, 22, 23, 24, 25, 26, 27, 28, 29, 30, 31, 32, 33, 34, 35, 36, 37, 38, 39, 40, 41, 42, 43, 44, 45, 46, 47, 48, 49, 50, 51, 52, 53, 54, 55, 56, 57, 58, 59, 60] rfl (by decide +kernel)
set_option maxRecDepth 20000 in
theorem gX6_cost_X6_full : GoodIn wsX6_cost (wsV RX6 203 RX6 yX6_full wsX6_full) := goodIn_app (goodIn_of _ (by decide +kernel)) ggX6_cost_X6_full
set_option maxRecDepth 20000 in
theorem ggX6_cost_X6_fail : GoodIn wsX6_cost wsX6_fail := goodIn_r _ [15, 1, 16, 17, 18, 19, 20, 21, 22, 23, 24, 25, 26, 27, 28, 29, 30, 31, 32, 33, 34, 35, 36, 37, 38, 39, 40, 41, 42, 43, 44, 45, 46, 47, 48, 49, 50, 51, 52, 53, 54, 55, 56, 57, 58, 59, 60] rfl (by decide +kernel)
set_option maxRecDepth 20000 in
theorem gX6_cost_X6_fail : GoodIn wsX6_cost (wsV RX6 180 RX6 yX6_fail wsX6_fail) := goodIn_app (goodIn_of _ (by decide +kernel)) ggX6_cost_X6_fail
theorem dX6_cost_0 : decode cX6_cost 0 = .ok (.aload_n 0, 1) := by decide +kernel
theorem dX6_cost_1 : decode cX6_cost 1 = .ok (.iconst 0, 1) := by decide +kernel
theorem dX6_cost_2 : decode cX6_cost 2 = .ok (.putfield 80, 3) := by decide +kernel
theorem dX6_cost_5 : decode cX6_cost 5 = .ok (.iload_n 1, 1) := by decide +kernel
theorem dX6_cost_6 : decode cX6_cost 6 = .ok (.ifCond .lt 24, 3) := by decide +kernel
theorem dX6_cost_9 : decode cX6_cost 9 = .ok (.iload_n 1, 1) := by decide +kernel
theorem dX6_cost_10 : decode cX6_cost 10 = .ok (.aload_n 0, 1) := by decide +kernel
theorem dX6_cost_11 : decode cX6_cost 11 = .ok (.getfield 144, 3) := by decide +kernel
theorem dX6_cost_14 : decode cX6_cost 14 = .ok (.if_icmp .ge 16, 3) := by decide +kernel
theorem dX6_cost_17 : decode cX6_cost 17 = .ok (.iload_n 2, 1) := by decide +kernel
theorem dX6_cost_18 : decode cX6_cost 18 = .ok (.ifCond .lt 12, 3) := by decide +kernel
theorem dX6_cost_21 : decode cX6_cost 21 = .ok (.iload_n 2, 1) := by decide +kernel
theorem dX6_cost_22 : decode cX6_cost 22 = .ok (.aload_n 0, 1) := by decide +kernel
theorem dX6_cost_23 : decode cX6_cost 23 = .ok (.iload_n 1, 1) := by decide +kernel
theorem dX6_cost_24 : decode cX6_cost 24 = .ok (.invokevirtual 203, 3) := by decide +kernel
theorem dX6_cost_27 : decode cX6_cost 27 = .ok (.if_icmp .le 8, 3) := by decide +kernel
theorem dX6_cost_30 : decode cX6_cost 30 = .ok (.aload_n 0, 1) := by decide +kernel
theorem dX6_cost_31 : decode cX6_cost 31 = .ok (.invokevirtual 180, 3) := by decide +kernel
theorem dX6_cost_34 : decode cX6_cost 34 = .ok (.ireturn, 1) := by decide +kernel
theorem dX6_cost_35 : decode cX6_cost 35 = .ok (.aload_n 0, 1) := by decide +kernel
theorem dX6_cost_36 : decode cX6_cost 36 = .ok (.getfield 62, 3) := by decide +kernel
theorem dX6_cost_39 : decode cX6_cost 39 = .ok (.aload_n 0, 1) := by decide +kernel
theorem dX6_cost_40 : decode cX6_cost 40 = .ok (.getfield 196, 3) := by decide +kernel
theorem dX6_cost_43 : decode cX6_cost 43 = .ok (.aaload, 1) := by decide +kernel
theorem dX6_cost_44 : decode cX6_cost 44 = .ok (.bipush 16, 2) := by decide +kernel
theorem dX6_cost_46 : decode cX6_cost 46 = .ok (.iload_n 1, 1) := by decide +kernel
theorem dX6_cost_47 : decode cX6_cost 47 = .ok (.imul, 1) := by decide +kernel
theorem dX6_cost_48 : decode cX6_cost 48 = .ok (.iload_n 2, 1) := by decide +kernel
theorem dX6_cost_49 : decode cX6_cost 49 = .ok (.iadd, 1) := by decide +kernel
theorem dX6_cost_50 : decode cX6_cost 50 = .ok (.iaload, 1) := by decide +kernel
theorem dX6_cost_51 : decode cX6_cost 51 = .ok (.istore_n 3, 1) := by decide +kernel
theorem dX6_cost_52 : decode cX6_cost 52 = .ok (.iload_n 3, 1) := by decide +kernel
theorem dX6_cost_53 : decode cX6_cost 53 = .ok (.ldc 202, 2) := by decide +kernel
theorem dX6_cost_55 : decode cX6_cost 55 = .ok (.if_icmp .lt 7, 3) := by decide +kernel
theorem dX6_cost_58 : decode cX6_cost 58 = .ok (.iconst (-1), 1) := by decide +kernel
theorem dX6_cost_59 : decode cX6_cost 59 = .ok (.goto 4, 3) := by decide +kernel
theorem dX6_cost_62 : decode cX6_cost 62 = .ok (.iload_n 3, 1) := by decide +kernel
theorem dX6_cost_63 : decode cX6_cost 63 = .ok (.ireturn, 1) := by decide +kernel
set_option maxRecDepth 20000 in
theorem ggX6_sure_X6_fail : GoodIn wsX6_sure wsX6_fail := goodIn_r _ [17, 1, 23, 24, 25, 26, 27, 28, 29, 30, 31, 32, 33, 34, 35, 36, 37, 38, 39, 40, 41, 42, 43, 44, 45, 46, 47, 48, 49, 50, 51, 52, 53, 54, 55, 56, 57, 58, 59, 60, 61, 62, 63, 64, 65, 66, 67] rfl (by decide +kernel)
set_option maxRecDepth 20000 in
theorem gX6_sure_X6_fail : GoodIn wsX6_sure (wsV RX6 180 RX6 yX6_fail wsX6_fail) := goodIn_app (goodIn_of _ (by decide +kernel)) ggX6_sure_X6_fail
set_option maxRecDepth 20000 in
theorem ggX6_sure_X6_full : GoodIn wsX6_sure wsX6_full := goodIn_r _ [21, 22, 23, 24, 25, 26, 27, 28, 29, 30, 31, 32, 33, 34, 35, 36, 37, 38, 39, 40, 41, 42, 43, 44, 45, 46, 47, 48, 49, 50, 51, 52, 53, 54, 55, 56, 57, 58, 59, 60, 61, 62, 63, 64, 65, 66, 67] rfl (by decide +kernel)
set_option maxRecDepth 20000 in
theorem gX6_sure_X6_full : GoodIn wsX6_sure (wsV RX6 203 RX6 yX6_full wsX6_full) := goodIn_app (goodIn_of _ (by decide +kernel)) ggX6_sure_X6_full
theorem dX6_sure_0 : decode cX6_sure 0 = .ok (.aload_n 0, 1) := by decide +kernel
theorem dX6_sure_1 : decode cX6_sure 1 = .ok (.iconst 0, 1) := by decide +kernel
theorem dX6_sure_2 : decode cX6_sure 2 = .ok (.putfield 80, 3) := by decide +kernel
theorem dX6_sure_5 : decode cX6_sure 5 = .ok (.aload_n 0, 1) := by decide +kernel
theorem dX6_sure_6 : decode cX6_sure 6 = .ok (.getfield 144, 3) := by decide +kernel
theorem dX6_sure_9 : decode cX6_sure 9 = .ok (.ifCond .ne 8, 3) := by decide +kernel
theorem dX6_sure_12 : decode cX6_sure 12 = .ok (.aload_n 0, 1) := by decide +kernel
theorem dX6_sure_13 : decode cX6_sure 13 = .ok (.invokevirtual 180, 3) := by decide +kernel
theorem dX6_sure_16 : decode cX6_sure 16 = .ok (.ireturn, 1) := by decide +kernel
theorem dX6_sure_17 : decode cX6_sure 17 = .ok (.aload_n 0, 1) := by decide +kernel
theorem dX6_sure_18 : decode cX6_sure 18 = .ok (.getfield 54, 3) := by decide +kernel
theorem dX6_sure_21 : decode cX6_sure 21 = .ok (.aload_n 0, 1) := by decide +kernel
theorem dX6_sure_22 : decode cX6_sure 22 = .ok (.getfield 196, 3) := by decide +kernel
theorem dX6_sure_25 : decode cX6_sure 25 = .ok (.iaload, 1) := by decide +kernel
theorem dX6_sure_26 : decode cX6_sure 26 = .ok (.istore_n 1, 1) := by decide +kernel
theorem dX6_sure_27 : decode cX6_sure 27 = .ok (.ldc 202, 2) := by decide +kernel
theorem dX6_sure_29 : decode cX6_sure 29 = .ok (.istore_n 2, 1) := by decide +kernel
theorem dX6_sure_30 : decode cX6_sure 30 = .ok (.iconst 0, 1) := by decide +kernel
theorem dX6_sure_31 : decode cX6_sure 31 = .ok (.istore_n 3, 1) := by decide +kernel
theorem dX6_sure_32 : decode cX6_sure 32 = .ok (.iload_n 3, 1) := by decide +kernel
theorem dX6_sure_33 : decode cX6_sure 33 = .ok (.aload_n 0, 1) := by decide +kernel
theorem dX6_sure_34 : decode cX6_sure 34 = .ok (.getfield 144, 3) := by decide +kernel
theorem dX6_sure_37 : decode cX6_sure 37 = .ok (.if_icmp .ge 65, 3) := by decide +kernel
theorem dX6_sure_40 : decode cX6_sure 40 = .ok (.iconst 0, 1) := by decide +kernel
theorem dX6_sure_41 : decode cX6_sure 41 = .ok (.istore 4, 2) := by decide +kernel
theorem dX6_sure_43 : decode cX6_sure 43 = .ok (.iload 4, 2) := by decide +kernel
theorem dX6_sure_45 : decode cX6_sure 45 = .ok (.aload_n 0, 1) := by decide +kernel
theorem dX6_sure_46 : decode cX6_sure 46 = .ok (.iload_n 3, 1) := by decide +kernel
theorem dX6_sure_47 : decode cX6_sure 47 = .ok (.invokevirtual 203, 3) := by decide +kernel
theorem dX6_sure_50 : decode cX6_sure 50 = .ok (.if_icmp .gt 46, 3) := by decide +kernel
theorem dX6_sure_53 : decode cX6_sure 53 = .ok (.aload_n 0, 1) := by decide +kernel
theorem dX6_sure_54 : decode cX6_sure 54 = .ok (.getfield 32, 3) := by decide +kernel
theorem dX6_sure_57 : decode cX6_sure 57 = .ok (.iload_n 3, 1) := by decide +kernel
theorem dX6_sure_58 : decode cX6_sure 58 = .ok (.iaload, 1) := by decide +kernel
theorem dX6_sure_59 : decode cX6_sure 59 = .ok (.aload_n 0, 1) := by decide +kernel
theorem dX6_sure_60 : decode cX6_sure 60 = .ok (.getfield 32, 3) := by decide +kernel
theorem dX6_sure_63 : decode cX6_sure 63 = .ok (.iload_n 1, 1) := by decide +kernel
theorem dX6_sure_64 : decode cX6_sure 64 = .ok (.iaload, 1) := by decide +kernel
theorem dX6_sure_65 : decode cX6_sure 65 = .ok (.if_icmp .eq 25, 3) := by decide +kernel
theorem dX6_sure_68 : decode cX6_sure 68 = .ok (.iload_n 2, 1) := by decide +kernel
theorem dX6_sure_69 : decode cX6_sure 69 = .ok (.aload_n 0, 1) := by decide +kernel
theorem dX6_sure_70 : decode cX6_sure 70 = .ok (.getfield 62, 3) := by decide +kernel
theorem dX6_sure_73 : decode cX6_sure 73 = .ok (.aload_n 0, 1) := by decide +kernel
theorem dX6_sure_74 : decode cX6_sure 74 = .ok (.getfield 196, 3) := by decide +kernel
theorem dX6_sure_77 : decode cX6_sure 77 = .ok (.aaload, 1) := by decide +kernel
theorem dX6_sure_78 : decode cX6_sure 78 = .ok (.bipush 16, 2) := by decide +kernel
theorem dX6_sure_80 : decode cX6_sure 80 = .ok (.iload_n 3, 1) := by decide +kernel
theorem dX6_sure_81 : decode cX6_sure 81 = .ok (.imul, 1) := by decide +kernel
theorem dX6_sure_82 : decode cX6_sure 82 = .ok (.iload 4, 2) := by decide +kernel
theorem dX6_sure_84 : decode cX6_sure 84 = .ok (.iadd, 1) := by decide +kernel
theorem dX6_sure_85 : decode cX6_sure 85 = .ok (.iaload, 1) := by decide +kernel
theorem dX6_sure_86 : decode cX6_sure 86 = .ok (.invokestatic 112, 3) := by decide +kernel
theorem dX6_sure_89 : decode cX6_sure 89 = .ok (.istore_n 2, 1) := by decide +kernel
theorem dX6_sure_90 : decode cX6_sure 90 = .ok (.iinc 4 1, 3) := by decide +kernel
theorem dX6_sure_93 : decode cX6_sure 93 = .ok (.goto (-50), 3) := by decide +kernel
theorem dX6_sure_96 : decode cX6_sure 96 = .ok (.iinc 3 1, 3) := by decide +kernel
theorem dX6_sure_99 : decode cX6_sure 99 = .ok (.goto (-67), 3) := by decide +kernel
theorem dX6_sure_102 : decode cX6_sure 102 = .ok (.iload_n 2, 1) := by decide +kernel
theorem dX6_sure_103 : decode cX6_sure 103 = .ok (.ldc 202, 2) := by decide +kernel
theorem dX6_sure_105 : decode cX6_sure 105 = .ok (.if_icmp .lt 7, 3) := by decide +kernel
theorem dX6_sure_108 : decode cX6_sure 108 = .ok (.iconst (-1), 1) := by decide +kernel
theorem dX6_sure_109 : decode cX6_sure 109 = .ok (.goto 29, 3) := by decide +kernel
theorem dX6_sure_112 : decode cX6_sure 112 = .ok (.iload_n 2, 1) := by decide +kernel
theorem dX6_sure_113 : decode cX6_sure 113 = .ok (.aload_n 0, 1) := by decide +kernel
theorem dX6_sure_114 : decode cX6_sure 114 = .ok (.getfield 62, 3) := by decide +kernel
theorem dX6_sure_117 : decode cX6_sure 117 = .ok (.aload_n 0, 1) := by decide +kernel
theorem dX6_sure_118 : decode cX6_sure 118 = .ok (.getfield 196, 3) := by decide +kernel
theorem dX6_sure_121 : decode cX6_sure 121 = .ok (.aaload, 1) := by decide +kernel
theorem dX6_sure_122 : decode cX6_sure 122 = .ok (.bipush 16, 2) := by decide +kernel
theorem dX6_sure_124 : decode cX6_sure 124 = .ok (.iload_n 1, 1) := by decide +kernel
theorem dX6_sure_125 : decode cX6_sure 125 = .ok (.imul, 1) := by decide +kernel
theorem dX6_sure_126 : decode cX6_sure 126 = .ok (.aload_n 0, 1) := by decide +kernel
theorem dX6_sure_127 : decode cX6_sure 127 = .ok (.getfield 57, 3) := by decide +kernel
theorem dX6_sure_130 : decode cX6_sure 130 = .ok (.aload_n 0, 1) := by decide +kernel
theorem dX6_sure_131 : decode cX6_sure 131 = .ok (.getfield 196, 3) := by decide +kernel
theorem dX6_sure_134 : decode cX6_sure 134 = .ok (.iaload, 1) := by decide +kernel
theorem dX6_sure_135 : decode cX6_sure 135 = .ok (.iadd, 1) := by decide +kernel
theorem dX6_sure_136 : decode cX6_sure 136 = .ok (.iaload, 1) := by decide +kernel
theorem dX6_sure_137 : decode cX6_sure 137 = .ok (.isub, 1) := by decide +kernel
theorem dX6_sure_138 : decode cX6_sure 138 = .ok (.ireturn, 1) := by decide +kernel
theorem dX6_upper_0 : decode cX6_upper 0 = .ok (.aload_n 0, 1) := by decide +kernel
theorem dX6_upper_1 : decode cX6_upper 1 = .ok (.getfield 199, 3) := by decide +kernel
theorem dX6_upper_4 : decode cX6_upper 4 = .ok (.iconst 2, 1) := by decide +kernel
theorem dX6_upper_5 : decode cX6_upper 5 = .ok (.if_icmp .ge 9, 3) := by decide +kernel
theorem dX6_upper_8 : decode cX6_upper 8 = .ok (.sipush 500, 3) := by decide +kernel
theorem dX6_upper_11 : decode cX6_upper 11 = .ok (.goto 30, 3) := by decide +kernel
theorem dX6_upper_14 : decode cX6_upper 14 = .ok (.aload_n 0, 1) := by decide +kernel
theorem dX6_upper_15 : decode cX6_upper 15 = .ok (.getfield 74, 3) := by decide +kernel
theorem dX6_upper_18 : decode cX6_upper 18 = .ok (.aload_n 0, 1) := by decide +kernel
theorem dX6_upper_19 : decode cX6_upper 19 = .ok (.getfield 199, 3) := by decide +kernel
theorem dX6_upper_22 : decode cX6_upper 22 = .ok (.iconst 1, 1) := by decide +kernel
theorem dX6_upper_23 : decode cX6_upper 23 = .ok (.isub, 1) := by decide +kernel
theorem dX6_upper_24 : decode cX6_upper 24 = .ok (.iaload, 1) := by decide +kernel
theorem dX6_upper_25 : decode cX6_upper 25 = .ok (.aload_n 0, 1) := by decide +kernel
theorem dX6_upper_26 : decode cX6_upper 26 = .ok (.getfield 74, 3) := by decide +kernel
theorem dX6_upper_29 : decode cX6_upper 29 = .ok (.iconst 0, 1) := by decide +kernel
theorem dX6_upper_30 : decode cX6_upper 30 = .ok (.aload_n 0, 1) := by decide +kernel
theorem dX6_upper_31 : decode cX6_upper 31 = .ok (.getfield 199, 3) := by decide +kernel
theorem dX6_upper_34 : decode cX6_upper 34 = .ok (.iconst 5, 1) := by decide +kernel
theorem dX6_upper_35 : decode cX6_upper 35 = .ok (.isub, 1) := by decide +kernel
theorem dX6_upper_36 : decode cX6_upper 36 = .ok (.invokestatic 232, 3) := by decide +kernel
theorem dX6_upper_39 : decode cX6_upper 39 = .ok (.iaload, 1) := by decide +kernel
theorem dX6_upper_40 : decode cX6_upper 40 = .ok (.isub, 1) := by decide +kernel
theorem dX6_upper_41 : decode cX6_upper 41 = .ok (.ireturn, 1) := by decide +kernel
theorem dX6_lower_0 : decode cX6_lower 0 = .ok (.aload_n 0, 1) := by decide +kernel
theorem dX6_lower_1 : decode cX6_lower 1 = .ok (.getfield 199, 3) := by decide +kernel
theorem dX6_lower_4 : decode cX6_lower 4 = .ok (.iconst 2, 1) := by decide +kernel
theorem dX6_lower_5 : decode cX6_lower 5 = .ok (.if_icmp .ge 7, 3) := by decide +kernel
theorem dX6_lower_8 : decode cX6_lower 8 = .ok (.iconst 1, 1) := by decide +kernel
theorem dX6_lower_9 : decode cX6_lower 9 = .ok (.goto 40, 3) := by decide +kernel
theorem dX6_lower_12 : decode cX6_lower 12 = .ok (.aload_n 0, 1) := by decide +kernel
theorem dX6_lower_13 : decode cX6_lower 13 = .ok (.getfield 26, 3) := by decide +kernel
theorem dX6_lower_16 : decode cX6_lower 16 = .ok (.aload_n 0, 1) := by decide +kernel
theorem dX6_lower_17 : decode cX6_lower 17 = .ok (.getfield 71, 3) := by decide +kernel
theorem dX6_lower_20 : decode cX6_lower 20 = .ok (.aload_n 0, 1) := by decide +kernel
theorem dX6_lower_21 : decode cX6_lower 21 = .ok (.getfield 199, 3) := by decide +kernel
theorem dX6_lower_24 : decode cX6_lower 24 = .ok (.iconst 1, 1) := by decide +kernel
theorem dX6_lower_25 : decode cX6_lower 25 = .ok (.isub, 1) := by decide +kernel
theorem dX6_lower_26 : decode cX6_lower 26 = .ok (.iaload, 1) := by decide +kernel
theorem dX6_lower_27 : decode cX6_lower 27 = .ok (.iaload, 1) := by decide +kernel
theorem dX6_lower_28 : decode cX6_lower 28 = .ok (.aload_n 0, 1) := by decide +kernel
theorem dX6_lower_29 : decode cX6_lower 29 = .ok (.getfield 26, 3) := by decide +kernel
theorem dX6_lower_32 : decode cX6_lower 32 = .ok (.aload_n 0, 1) := by decide +kernel
theorem dX6_lower_33 : decode cX6_lower 33 = .ok (.getfield 71, 3) := by decide +kernel
theorem dX6_lower_36 : decode cX6_lower 36 = .ok (.iconst 0, 1) := by decide +kernel
theorem dX6_lower_37 : decode cX6_lower 37 = .ok (.aload_n 0, 1) := by decide +kernel
theorem dX6_lower_38 : decode cX6_lower 38 = .ok (.getfield 199, 3) := by decide +kernel
theorem dX6_lower_41 : decode cX6_lower 41 = .ok (.iconst 5, 1) := by decide +kernel
theorem dX6_lower_42 : decode cX6_lower 42 = .ok (.isub, 1) := by decide +kernel
theorem dX6_lower_43 : decode cX6_lower 43 = .ok (.invokestatic 232, 3) := by decide +kernel
theorem dX6_lower_46 : decode cX6_lower 46 = .ok (.iaload, 1) := by decide +kernel
theorem dX6_lower_47 : decode cX6_lower 47 = .ok (.iaload, 1) := by decide +kernel
theorem dX6_lower_48 : decode cX6_lower 48 = .ok (.isub, 1) := by decide +kernel
theorem dX6_lower_49 : decode cX6_lower 49 = .ok (.ireturn, 1) := by decide +kernel
set_option maxRecDepth 20000 in
theorem ggX6_tempo_X6_upper : GoodIn wsX6_tempo wsX6_upper := goodIn_r _ [6, 7, 8, 9, 10, 11, 12, 19, 20, 21, 22, 23, 24, 25, 26, 27, 28, 29, 30, 31, 32, 33, 34, 35, 36, 37, 38, 39, 40, 41, 42, 43, 44, 45, 46, 47, 48, 49, 50, 51, 52, 53, 54, 55, 56, 57, 58, 59, 60, 61, 62, 63] rfl (by decide +kernel)
set_option maxRecDepth 20000 in
theorem gX6_tempo_X6_upper : GoodIn wsX6_tempo (wsV RX6 235 RX6 yX6_upper wsX6_upper) := goodIn_app (goodIn_of _ (by decide +kernel)) ggX6_tempo_X6_upper
set_option maxRecDepth 20000 in
theorem ggX6_tempo_X6_lower : GoodIn wsX6_tempo wsX6_lower := goodIn_r _ [16, 7, 17, 18, 9, 10, 11, 12, 19, 20, 21, 22, 23, 24, 25, 26, 27, 28, 29, 30, 31, 32, 33, 34, 35, 36, 37, 38, 39, 40, 41, 42, 43, 44, 45, 46, 47, 48, 49, 50, 51, 52, 53, 54, 55, 56, 57, 58, 59, 60, 61, 62, 63] rfl (by decide +kernel)
set_option maxRecDepth 20000 in
theorem gX6_tempo_X6_lower : GoodIn wsX6_tempo (wsV RX6 238 RX6 yX6_lower wsX6_lower) := goodIn_app (goodIn_of _ (by decide +kernel)) ggX6_tempo_X6_lower
theorem dX6_tempo_0 : decode cX6_tempo 0 = .ok (.aload_n 0, 1) := by decide +kernel
theorem dX6_tempo_1 : decode cX6_tempo 1 = .ok (.iconst 0, 1) := by decide +kernel
theorem dX6_tempo_2 : decode cX6_tempo 2 = .ok (.putfield 80, 3) := by decide +kernel
theorem dX6_tempo_5 : decode cX6_tempo 5 = .ok (.aload_n 0, 1) := by decide +kernel
theorem dX6_tempo_6 : decode cX6_tempo 6 = .ok (.invokevirtual 235, 3) := by decide +kernel
theorem dX6_tempo_9 : decode cX6_tempo 9 = .ok (.istore_n 2, 1) := by decide +kernel
theorem dX6_tempo_10 : decode cX6_tempo 10 = .ok (.aload_n 0, 1) := by decide +kernel
theorem dX6_tempo_11 : decode cX6_tempo 11 = .ok (.invokevirtual 238, 3) := by decide +kernel
theorem dX6_tempo_14 : decode cX6_tempo 14 = .ok (.istore_n 3, 1) := by decide +kernel
theorem dX6_tempo_15 : decode cX6_tempo 15 = .ok (.iload_n 2, 1) := by decide +kernel
theorem dX6_tempo_16 : decode cX6_tempo 16 = .ok (.istore 4, 2) := by decide +kernel
theorem dX6_tempo_18 : decode cX6_tempo 18 = .ok (.iload_n 3, 1) := by decide +kernel
theorem dX6_tempo_19 : decode cX6_tempo 19 = .ok (.istore 5, 2) := by decide +kernel
theorem dX6_tempo_21 : decode cX6_tempo 21 = .ok (.iload 5, 2) := by decide +kernel
theorem dX6_tempo_23 : decode cX6_tempo 23 = .ok (.ifCond .eq 21, 3) := by decide +kernel
theorem dX6_tempo_26 : decode cX6_tempo 26 = .ok (.iload 4, 2) := by decide +kernel
theorem dX6_tempo_28 : decode cX6_tempo 28 = .ok (.iload 5, 2) := by decide +kernel
theorem dX6_tempo_30 : decode cX6_tempo 30 = .ok (.irem, 1) := by decide +kernel
theorem dX6_tempo_31 : decode cX6_tempo 31 = .ok (.istore 6, 2) := by decide +kernel
theorem dX6_tempo_33 : decode cX6_tempo 33 = .ok (.iload 5, 2) := by decide +kernel
theorem dX6_tempo_35 : decode cX6_tempo 35 = .ok (.istore 4, 2) := by decide +kernel
theorem dX6_tempo_37 : decode cX6_tempo 37 = .ok (.iload 6, 2) := by decide +kernel
theorem dX6_tempo_39 : decode cX6_tempo 39 = .ok (.istore 5, 2) := by decide +kernel
theorem dX6_tempo_41 : decode cX6_tempo 41 = .ok (.goto (-20), 3) := by decide +kernel
theorem dX6_tempo_44 : decode cX6_tempo 44 = .ok (.iload_n 1, 1) := by decide +kernel
theorem dX6_tempo_45 : decode cX6_tempo 45 = .ok (.ifCond .eq 10, 3) := by decide +kernel
theorem dX6_tempo_48 : decode cX6_tempo 48 = .ok (.iload_n 3, 1) := by decide +kernel
theorem dX6_tempo_49 : decode cX6_tempo 49 = .ok (.iload 4, 2) := by decide +kernel
theorem dX6_tempo_51 : decode cX6_tempo 51 = .ok (.idiv, 1) := by decide +kernel
theorem dX6_tempo_52 : decode cX6_tempo 52 = .ok (.goto 7, 3) := by decide +kernel
theorem dX6_tempo_55 : decode cX6_tempo 55 = .ok (.iload_n 2, 1) := by decide +kernel
theorem dX6_tempo_56 : decode cX6_tempo 56 = .ok (.iload 4, 2) := by decide +kernel
theorem dX6_tempo_58 : decode cX6_tempo 58 = .ok (.idiv, 1) := by decide +kernel
theorem dX6_tempo_59 : decode cX6_tempo 59 = .ok (.ireturn, 1) := by decide +kernel
set_option maxRecDepth 20000 in
theorem ggX6_timeOf_X6_upper : GoodIn wsX6_timeOf wsX6_upper := goodIn_r _ [9, 3, 4, 10, 11, 12, 13, 18, 19, 20, 21, 22, 23, 24, 25, 26, 27, 28, 29, 30, 31, 32, 33, 34, 35, 36, 37, 38, 39, 40, 41, 42, 43, 44, 45, 46, 47, 48, 49, 50, 51, 52, 53, 54, 55, 56, 57, 58, 59, 60, 61, 62] rfl (by decide +kernel)
set_option maxRecDepth 20000 in
theorem gX6_timeOf_X6_upper : GoodIn wsX6_timeOf (wsV RX6 235 RX6 yX6_upper wsX6_upper) := goodIn_app (goodIn_of _ (by decide +kernel)) ggX6_timeOf_X6_upper
set_option maxRecDepth 20000 in
theorem ggX6_timeOf_X6_lower : GoodIn wsX6_timeOf wsX6_lower := goodIn_r _ [17, 3, 1, 2, 10, 11, 12, 13, 18, 19, 20, 21, 22, 23, 24, 25, 26, 27, 28, 29, 30, 31, 32, 33, 34, 35, 36, 37, 38, 39, 40, 41, 42, 43, 44, 45, 46, 47, 48, 49, 50, 51, 52, 53, 54, 55, 56, 57, 58, 59, 60, 61, 62] rfl (by decide +kernel)
set_option maxRecDepth 20000 in
theorem gX6_timeOf_X6_lower : GoodIn wsX6_timeOf (wsV RX6 238 RX6 yX6_lower wsX6_lower) := goodIn_app (goodIn_of _ (by decide +kernel)) ggX6_timeOf_X6_lower
theorem dX6_timeOf_0 : decode cX6_timeOf 0 = .ok (.aload_n 0, 1) := by decide +kernel
theorem dX6_timeOf_1 : decode cX6_timeOf 1 = .ok (.invokevirtual 235, 3) := by decide +kernel
theorem dX6_timeOf_4 : decode cX6_timeOf 4 = .ok (.i2l, 1) := by decide +kernel
theorem dX6_timeOf_5 : decode cX6_timeOf 5 = .ok (.iload_n 1, 1) := by decide +kernel
theorem dX6_timeOf_6 : decode cX6_timeOf 6 = .ok (.aload_n 0, 1) := by decide +kernel
theorem dX6_timeOf_7 : decode cX6_timeOf 7 = .ok (.getfield 26, 3) := by decide +kernel
theorem dX6_timeOf_10 : decode cX6_timeOf 10 = .ok (.aload_n 0, 1) := by decide +kernel
theorem dX6_timeOf_11 : decode cX6_timeOf 11 = .ok (.getfield 71, 3) := by decide +kernel
theorem dX6_timeOf_14 : decode cX6_timeOf 14 = .ok (.aload_n 0, 1) := by decide +kernel
theorem dX6_timeOf_15 : decode cX6_timeOf 15 = .ok (.getfield 199, 3) := by decide +kernel
theorem dX6_timeOf_18 : decode cX6_timeOf 18 = .ok (.iconst 1, 1) := by decide +kernel
theorem dX6_timeOf_19 : decode cX6_timeOf 19 = .ok (.isub, 1) := by decide +kernel
theorem dX6_timeOf_20 : decode cX6_timeOf 20 = .ok (.iaload, 1) := by decide +kernel
theorem dX6_timeOf_21 : decode cX6_timeOf 21 = .ok (.iaload, 1) := by decide +kernel
theorem dX6_timeOf_22 : decode cX6_timeOf 22 = .ok (.isub, 1) := by decide +kernel
theorem dX6_timeOf_23 : decode cX6_timeOf 23 = .ok (.i2l, 1) := by decide +kernel
theorem dX6_timeOf_24 : decode cX6_timeOf 24 = .ok (.lmul, 1) := by decide +kernel
theorem dX6_timeOf_25 : decode cX6_timeOf 25 = .ok (.lstore_n 2, 1) := by decide +kernel
theorem dX6_timeOf_26 : decode cX6_timeOf 26 = .ok (.lload_n 2, 1) := by decide +kernel
theorem dX6_timeOf_27 : decode cX6_timeOf 27 = .ok (.aload_n 0, 1) := by decide +kernel
theorem dX6_timeOf_28 : decode cX6_timeOf 28 = .ok (.invokevirtual 238, 3) := by decide +kernel
theorem dX6_timeOf_31 : decode cX6_timeOf 31 = .ok (.i2l, 1) := by decide +kernel
theorem dX6_timeOf_32 : decode cX6_timeOf 32 = .ok (.ldiv, 1) := by decide +kernel
theorem dX6_timeOf_33 : decode cX6_timeOf 33 = .ok (.lstore 4, 2) := by decide +kernel
theorem dX6_timeOf_35 : decode cX6_timeOf 35 = .ok (.lload_n 2, 1) := by decide +kernel
theorem dX6_timeOf_36 : decode cX6_timeOf 36 = .ok (.aload_n 0, 1) := by decide +kernel
theorem dX6_timeOf_37 : decode cX6_timeOf 37 = .ok (.invokevirtual 238, 3) := by decide +kernel
theorem dX6_timeOf_40 : decode cX6_timeOf 40 = .ok (.i2l, 1) := by decide +kernel
theorem dX6_timeOf_41 : decode cX6_timeOf 41 = .ok (.lrem, 1) := by decide +kernel
theorem dX6_timeOf_42 : decode cX6_timeOf 42 = .ok (.lconst 0, 1) := by decide +kernel
theorem dX6_timeOf_43 : decode cX6_timeOf 43 = .ok (.lcmp, 1) := by decide +kernel
theorem dX6_timeOf_44 : decode cX6_timeOf 44 = .ok (.ifCond .ge 9, 3) := by decide +kernel
theorem dX6_timeOf_47 : decode cX6_timeOf 47 = .ok (.lload 4, 2) := by decide +kernel
theorem dX6_timeOf_49 : decode cX6_timeOf 49 = .ok (.lconst 1, 1) := by decide +kernel
theorem dX6_timeOf_50 : decode cX6_timeOf 50 = .ok (.lsub, 1) := by decide +kernel
theorem dX6_timeOf_51 : decode cX6_timeOf 51 = .ok (.lstore 4, 2) := by decide +kernel
theorem dX6_timeOf_53 : decode cX6_timeOf 53 = .ok (.aload_n 0, 1) := by decide +kernel
theorem dX6_timeOf_54 : decode cX6_timeOf 54 = .ok (.getfield 74, 3) := by decide +kernel
theorem dX6_timeOf_57 : decode cX6_timeOf 57 = .ok (.aload_n 0, 1) := by decide +kernel
theorem dX6_timeOf_58 : decode cX6_timeOf 58 = .ok (.getfield 199, 3) := by decide +kernel
theorem dX6_timeOf_61 : decode cX6_timeOf 61 = .ok (.iconst 1, 1) := by decide +kernel
theorem dX6_timeOf_62 : decode cX6_timeOf 62 = .ok (.isub, 1) := by decide +kernel
theorem dX6_timeOf_63 : decode cX6_timeOf 63 = .ok (.iaload, 1) := by decide +kernel
theorem dX6_timeOf_64 : decode cX6_timeOf 64 = .ok (.i2l, 1) := by decide +kernel
theorem dX6_timeOf_65 : decode cX6_timeOf 65 = .ok (.lload 4, 2) := by decide +kernel
theorem dX6_timeOf_67 : decode cX6_timeOf 67 = .ok (.ladd, 1) := by decide +kernel
theorem dX6_timeOf_68 : decode cX6_timeOf 68 = .ok (.lreturn, 1) := by decide +kernel
set_option maxRecDepth 20000 in
theorem ggX6_time_X6_fail : GoodIn wsX6_time wsX6_fail := goodIn_r _ [9, 1, 29, 30, 31, 32, 33, 34, 35, 36, 37, 38, 39, 40, 41, 42, 43, 44, 45, 46, 47, 48, 49, 50, 51, 52, 53, 54, 55, 56, 57, 58, 59, 60, 61, 62, 63, 64, 65, 66, 67, 68, 69, 70, 71, 72, 73] rfl (by decide +kernel)
set_option maxRecDepth 20000 in
theorem gX6_time_X6_fail : GoodIn wsX6_time (wsV RX6 180 RX6 yX6_fail wsX6_fail) := goodIn_app (goodIn_of _ (by decide +kernel)) ggX6_time_X6_fail
set_option maxRecDepth 20000 in
theorem ggX6_time_X6_timeOf : GoodIn wsX6_time wsX6_timeOf := goodIn_r _ [13, 14, 15, 3, 16, 17, 18, 19, 8, 20, 21, 22, 23, 24, 25, 26, 27, 28, 29, 30, 31, 32, 33, 34, 35, 36, 37, 38, 39, 40, 41, 42, 43, 44, 45, 46, 47, 48, 49, 50, 51, 52, 53, 54, 55, 56, 57, 58, 59, 60, 61, 62, 63, 64, 65, 66, 67, 68, 69, 70, 71, 72, 73] rfl (by decide +kernel)
set_option maxRecDepth 20000 in
theorem gX6_time_X6_timeOf : GoodIn wsX6_time (wsV RX6 244 RX6 yX6_timeOf wsX6_timeOf) := goodIn_app (goodIn_of _ (by decide +kernel)) ggX6_time_X6_timeOf
theorem dX6_time_0 : decode cX6_time 0 = .ok (.aload_n 0, 1) := by decide +kernel
theorem dX6_time_1 : decode cX6_time 1 = .ok (.iconst 0, 1) := by decide +kernel
theorem dX6_time_2 : decode cX6_time 2 = .ok (.putfield 80, 3) := by decide +kernel
theorem dX6_time_5 : decode cX6_time 5 = .ok (.iload_n 1, 1) := by decide +kernel
theorem dX6_time_6 : decode cX6_time 6 = .ok (.ifCond .lt 9, 3) := by decide +kernel
theorem dX6_time_9 : decode cX6_time 9 = .ok (.iload_n 1, 1) := by decide +kernel
theorem dX6_time_10 : decode cX6_time 10 = .ok (.ldc 241, 2) := by decide +kernel
theorem dX6_time_12 : decode cX6_time 12 = .ok (.if_icmp .le 9, 3) := by decide +kernel
theorem dX6_time_15 : decode cX6_time 15 = .ok (.aload_n 0, 1) := by decide +kernel
theorem dX6_time_16 : decode cX6_time 16 = .ok (.invokevirtual 180, 3) := by decide +kernel
theorem dX6_time_19 : decode cX6_time 19 = .ok (.i2l, 1) := by decide +kernel
theorem dX6_time_20 : decode cX6_time 20 = .ok (.lreturn, 1) := by decide +kernel
theorem dX6_time_21 : decode cX6_time 21 = .ok (.aload_n 0, 1) := by decide +kernel
theorem dX6_time_22 : decode cX6_time 22 = .ok (.getfield 199, 3) := by decide +kernel
theorem dX6_time_25 : decode cX6_time 25 = .ok (.ifCond .ne 9, 3) := by decide +kernel
theorem dX6_time_28 : decode cX6_time 28 = .ok (.ldc2_w 242, 3) := by decide +kernel
theorem dX6_time_31 : decode cX6_time 31 = .ok (.goto 8, 3) := by decide +kernel
theorem dX6_time_34 : decode cX6_time 34 = .ok (.aload_n 0, 1) := by decide +kernel
theorem dX6_time_35 : decode cX6_time 35 = .ok (.iload_n 1, 1) := by decide +kernel
theorem dX6_time_36 : decode cX6_time 36 = .ok (.invokevirtual 244, 3) := by decide +kernel
theorem dX6_time_39 : decode cX6_time 39 = .ok (.lreturn, 1) := by decide +kernel
set_option maxRecDepth 20000 in
theorem ggX6_turnsAt_X6_timeOf : GoodIn wsX6_turnsAt wsX6_timeOf := goodIn_r _ [15, 8, 16, 2, 17, 18, 19, 20, 14, 21, 22, 23, 24, 25, 26, 27, 28, 29, 30, 31, 32, 33, 34, 35, 36, 37, 38, 39, 40, 41, 42, 43, 44, 45, 46, 47, 48, 49, 50, 51, 52, 53, 54, 55, 56, 57, 58, 59, 60, 61, 62, 63, 64, 65, 66, 67, 68, 69, 70, 71, 72, 73, 74] rfl (by decide +kernel)
set_option maxRecDepth 20000 in
theorem gX6_turnsAt_X6_timeOf : GoodIn wsX6_turnsAt (wsV RX6 244 RX6 yX6_timeOf wsX6_timeOf) := goodIn_app (goodIn_of _ (by decide +kernel)) ggX6_turnsAt_X6_timeOf
theorem dX6_turnsAt_0 : decode cX6_turnsAt 0 = .ok (.aload_n 0, 1) := by decide +kernel
theorem dX6_turnsAt_1 : decode cX6_turnsAt 1 = .ok (.iconst 0, 1) := by decide +kernel
theorem dX6_turnsAt_2 : decode cX6_turnsAt 2 = .ok (.putfield 80, 3) := by decide +kernel
theorem dX6_turnsAt_5 : decode cX6_turnsAt 5 = .ok (.aload_n 0, 1) := by decide +kernel
theorem dX6_turnsAt_6 : decode cX6_turnsAt 6 = .ok (.getfield 199, 3) := by decide +kernel
theorem dX6_turnsAt_9 : decode cX6_turnsAt 9 = .ok (.ifCond .eq 26, 3) := by decide +kernel
theorem dX6_turnsAt_12 : decode cX6_turnsAt 12 = .ok (.aload_n 0, 1) := by decide +kernel
theorem dX6_turnsAt_13 : decode cX6_turnsAt 13 = .ok (.getfield 35, 3) := by decide +kernel
theorem dX6_turnsAt_16 : decode cX6_turnsAt 16 = .ok (.aload_n 0, 1) := by decide +kernel
theorem dX6_turnsAt_17 : decode cX6_turnsAt 17 = .ok (.getfield 54, 3) := by decide +kernel
theorem dX6_turnsAt_20 : decode cX6_turnsAt 20 = .ok (.aload_n 0, 1) := by decide +kernel
theorem dX6_turnsAt_21 : decode cX6_turnsAt 21 = .ok (.getfield 196, 3) := by decide +kernel
theorem dX6_turnsAt_24 : decode cX6_turnsAt 24 = .ok (.iaload, 1) := by decide +kernel
theorem dX6_turnsAt_25 : decode cX6_turnsAt 25 = .ok (.iaload, 1) := by decide +kernel
theorem dX6_turnsAt_26 : decode cX6_turnsAt 26 = .ok (.aload_n 0, 1) := by decide +kernel
theorem dX6_turnsAt_27 : decode cX6_turnsAt 27 = .ok (.getfield 150, 3) := by decide +kernel
theorem dX6_turnsAt_30 : decode cX6_turnsAt 30 = .ok (.iconst 1, 1) := by decide +kernel
theorem dX6_turnsAt_31 : decode cX6_turnsAt 31 = .ok (.isub, 1) := by decide +kernel
theorem dX6_turnsAt_32 : decode cX6_turnsAt 32 = .ok (.if_icmp .ne 7, 3) := by decide +kernel
theorem dX6_turnsAt_35 : decode cX6_turnsAt 35 = .ok (.ldc2_w 242, 3) := by decide +kernel
theorem dX6_turnsAt_38 : decode cX6_turnsAt 38 = .ok (.lreturn, 1) := by decide +kernel
theorem dX6_turnsAt_39 : decode cX6_turnsAt 39 = .ok (.aload_n 0, 1) := by decide +kernel
theorem dX6_turnsAt_40 : decode cX6_turnsAt 40 = .ok (.getfield 54, 3) := by decide +kernel
theorem dX6_turnsAt_43 : decode cX6_turnsAt 43 = .ok (.aload_n 0, 1) := by decide +kernel
theorem dX6_turnsAt_44 : decode cX6_turnsAt 44 = .ok (.getfield 196, 3) := by decide +kernel
theorem dX6_turnsAt_47 : decode cX6_turnsAt 47 = .ok (.iaload, 1) := by decide +kernel
theorem dX6_turnsAt_48 : decode cX6_turnsAt 48 = .ok (.istore_n 1, 1) := by decide +kernel
theorem dX6_turnsAt_49 : decode cX6_turnsAt 49 = .ok (.aload_n 0, 1) := by decide +kernel
theorem dX6_turnsAt_50 : decode cX6_turnsAt 50 = .ok (.getfield 35, 3) := by decide +kernel
theorem dX6_turnsAt_53 : decode cX6_turnsAt 53 = .ok (.iload_n 1, 1) := by decide +kernel
theorem dX6_turnsAt_54 : decode cX6_turnsAt 54 = .ok (.iconst 1, 1) := by decide +kernel
theorem dX6_turnsAt_55 : decode cX6_turnsAt 55 = .ok (.iadd, 1) := by decide +kernel
theorem dX6_turnsAt_56 : decode cX6_turnsAt 56 = .ok (.iaload, 1) := by decide +kernel
theorem dX6_turnsAt_57 : decode cX6_turnsAt 57 = .ok (.aload_n 0, 1) := by decide +kernel
theorem dX6_turnsAt_58 : decode cX6_turnsAt 58 = .ok (.getfield 35, 3) := by decide +kernel
theorem dX6_turnsAt_61 : decode cX6_turnsAt 61 = .ok (.aload_n 0, 1) := by decide +kernel
theorem dX6_turnsAt_62 : decode cX6_turnsAt 62 = .ok (.getfield 54, 3) := by decide +kernel
theorem dX6_turnsAt_65 : decode cX6_turnsAt 65 = .ok (.aload_n 0, 1) := by decide +kernel
theorem dX6_turnsAt_66 : decode cX6_turnsAt 66 = .ok (.getfield 196, 3) := by decide +kernel
theorem dX6_turnsAt_69 : decode cX6_turnsAt 69 = .ok (.iaload, 1) := by decide +kernel
theorem dX6_turnsAt_70 : decode cX6_turnsAt 70 = .ok (.iaload, 1) := by decide +kernel
theorem dX6_turnsAt_71 : decode cX6_turnsAt 71 = .ok (.if_icmp .ne 9, 3) := by decide +kernel
theorem dX6_turnsAt_74 : decode cX6_turnsAt 74 = .ok (.iinc 1 1, 3) := by decide +kernel
theorem dX6_turnsAt_77 : decode cX6_turnsAt 77 = .ok (.goto (-28), 3) := by decide +kernel
theorem dX6_turnsAt_80 : decode cX6_turnsAt 80 = .ok (.aload_n 0, 1) := by decide +kernel
theorem dX6_turnsAt_81 : decode cX6_turnsAt 81 = .ok (.aload_n 0, 1) := by decide +kernel
theorem dX6_turnsAt_82 : decode cX6_turnsAt 82 = .ok (.getfield 26, 3) := by decide +kernel
theorem dX6_turnsAt_85 : decode cX6_turnsAt 85 = .ok (.iload_n 1, 1) := by decide +kernel
theorem dX6_turnsAt_86 : decode cX6_turnsAt 86 = .ok (.iaload, 1) := by decide +kernel
theorem dX6_turnsAt_87 : decode cX6_turnsAt 87 = .ok (.aload_n 0, 1) := by decide +kernel
theorem dX6_turnsAt_88 : decode cX6_turnsAt 88 = .ok (.getfield 29, 3) := by decide +kernel
theorem dX6_turnsAt_91 : decode cX6_turnsAt 91 = .ok (.iload_n 1, 1) := by decide +kernel
theorem dX6_turnsAt_92 : decode cX6_turnsAt 92 = .ok (.iaload, 1) := by decide +kernel
theorem dX6_turnsAt_93 : decode cX6_turnsAt 93 = .ok (.iadd, 1) := by decide +kernel
theorem dX6_turnsAt_94 : decode cX6_turnsAt 94 = .ok (.invokevirtual 244, 3) := by decide +kernel
theorem dX6_turnsAt_97 : decode cX6_turnsAt 97 = .ok (.aload_n 0, 1) := by decide +kernel
theorem dX6_turnsAt_98 : decode cX6_turnsAt 98 = .ok (.getfield 77, 3) := by decide +kernel
theorem dX6_turnsAt_101 : decode cX6_turnsAt 101 = .ok (.i2l, 1) := by decide +kernel
theorem dX6_turnsAt_102 : decode cX6_turnsAt 102 = .ok (.lsub, 1) := by decide +kernel
theorem dX6_turnsAt_103 : decode cX6_turnsAt 103 = .ok (.lreturn, 1) := by decide +kernel
set_option maxRecDepth 20000 in
theorem ggX6_cue_X6_timeOf : GoodIn wsX6_cue wsX6_timeOf := goodIn_r _ [13, 8, 14, 2, 15, 16, 17, 18, 12, 19, 20, 21, 22, 23, 24, 25, 26, 27, 28, 29, 30, 31, 32, 33, 34, 35, 36, 37, 38, 39, 40, 41, 42, 43, 44, 45, 46, 47, 48, 49, 50, 51, 52, 53, 54, 55, 56, 57, 58, 59, 60, 61, 62, 63, 64, 65, 66, 67, 68, 69, 70, 71, 72] rfl (by decide +kernel)
set_option maxRecDepth 20000 in
theorem gX6_cue_X6_timeOf : GoodIn wsX6_cue (wsV RX6 244 RX6 yX6_timeOf wsX6_timeOf) := goodIn_app (goodIn_of _ (by decide +kernel)) ggX6_cue_X6_timeOf
theorem dX6_cue_0 : decode cX6_cue 0 = .ok (.aload_n 0, 1) := by decide +kernel
theorem dX6_cue_1 : decode cX6_cue 1 = .ok (.iconst 0, 1) := by decide +kernel
theorem dX6_cue_2 : decode cX6_cue 2 = .ok (.putfield 80, 3) := by decide +kernel
theorem dX6_cue_5 : decode cX6_cue 5 = .ok (.aload_n 0, 1) := by decide +kernel
theorem dX6_cue_6 : decode cX6_cue 6 = .ok (.getfield 199, 3) := by decide +kernel
theorem dX6_cue_9 : decode cX6_cue 9 = .ok (.ifCond .ne 7, 3) := by decide +kernel
theorem dX6_cue_12 : decode cX6_cue 12 = .ok (.ldc2_w 242, 3) := by decide +kernel
theorem dX6_cue_15 : decode cX6_cue 15 = .ok (.lreturn, 1) := by decide +kernel
theorem dX6_cue_16 : decode cX6_cue 16 = .ok (.aload_n 0, 1) := by decide +kernel
theorem dX6_cue_17 : decode cX6_cue 17 = .ok (.getfield 54, 3) := by decide +kernel
theorem dX6_cue_20 : decode cX6_cue 20 = .ok (.aload_n 0, 1) := by decide +kernel
theorem dX6_cue_21 : decode cX6_cue 21 = .ok (.getfield 196, 3) := by decide +kernel
theorem dX6_cue_24 : decode cX6_cue 24 = .ok (.iaload, 1) := by decide +kernel
theorem dX6_cue_25 : decode cX6_cue 25 = .ok (.istore_n 1, 1) := by decide +kernel
theorem dX6_cue_26 : decode cX6_cue 26 = .ok (.iload_n 1, 1) := by decide +kernel
theorem dX6_cue_27 : decode cX6_cue 27 = .ok (.aload_n 0, 1) := by decide +kernel
theorem dX6_cue_28 : decode cX6_cue 28 = .ok (.getfield 144, 3) := by decide +kernel
theorem dX6_cue_31 : decode cX6_cue 31 = .ok (.if_icmp .ge 29, 3) := by decide +kernel
theorem dX6_cue_34 : decode cX6_cue 34 = .ok (.aload_n 0, 1) := by decide +kernel
theorem dX6_cue_35 : decode cX6_cue 35 = .ok (.getfield 45, 3) := by decide +kernel
theorem dX6_cue_38 : decode cX6_cue 38 = .ok (.iload_n 1, 1) := by decide +kernel
theorem dX6_cue_39 : decode cX6_cue 39 = .ok (.baload, 1) := by decide +kernel
theorem dX6_cue_40 : decode cX6_cue 40 = .ok (.ifCond .eq 14, 3) := by decide +kernel
theorem dX6_cue_43 : decode cX6_cue 43 = .ok (.aload_n 0, 1) := by decide +kernel
theorem dX6_cue_44 : decode cX6_cue 44 = .ok (.aload_n 0, 1) := by decide +kernel
theorem dX6_cue_45 : decode cX6_cue 45 = .ok (.getfield 26, 3) := by decide +kernel
theorem dX6_cue_48 : decode cX6_cue 48 = .ok (.iload_n 1, 1) := by decide +kernel
theorem dX6_cue_49 : decode cX6_cue 49 = .ok (.iaload, 1) := by decide +kernel
theorem dX6_cue_50 : decode cX6_cue 50 = .ok (.invokevirtual 244, 3) := by decide +kernel
theorem dX6_cue_53 : decode cX6_cue 53 = .ok (.lreturn, 1) := by decide +kernel
theorem dX6_cue_54 : decode cX6_cue 54 = .ok (.iinc 1 1, 3) := by decide +kernel
theorem dX6_cue_57 : decode cX6_cue 57 = .ok (.goto (-31), 3) := by decide +kernel
theorem dX6_cue_60 : decode cX6_cue 60 = .ok (.ldc2_w 242, 3) := by decide +kernel
theorem dX6_cue_63 : decode cX6_cue 63 = .ok (.lreturn, 1) := by decide +kernel
set_option maxRecDepth 20000 in
theorem ggX6_lead_X6_fail : GoodIn wsX6_lead wsX6_fail := goodIn_r _ [8, 1, 9, 10, 11, 12, 13, 14, 15, 16, 17, 18, 19, 20, 21, 22, 23, 24, 25, 26, 27, 28, 29, 30, 31, 32, 33, 34, 35, 36, 37, 38, 39, 40, 41, 42, 43, 44, 45, 46, 47, 48, 49, 50, 51, 52, 53] rfl (by decide +kernel)
set_option maxRecDepth 20000 in
theorem gX6_lead_X6_fail : GoodIn wsX6_lead (wsV RX6 180 RX6 yX6_fail wsX6_fail) := goodIn_app (goodIn_of _ (by decide +kernel)) ggX6_lead_X6_fail
theorem dX6_lead_0 : decode cX6_lead 0 = .ok (.aload_n 0, 1) := by decide +kernel
theorem dX6_lead_1 : decode cX6_lead 1 = .ok (.iconst 0, 1) := by decide +kernel
theorem dX6_lead_2 : decode cX6_lead 2 = .ok (.putfield 80, 3) := by decide +kernel
theorem dX6_lead_5 : decode cX6_lead 5 = .ok (.iload_n 1, 1) := by decide +kernel
theorem dX6_lead_6 : decode cX6_lead 6 = .ok (.ifCond .lt 9, 3) := by decide +kernel
theorem dX6_lead_9 : decode cX6_lead 9 = .ok (.iload_n 1, 1) := by decide +kernel
theorem dX6_lead_10 : decode cX6_lead 10 = .ok (.ldc 248, 2) := by decide +kernel
theorem dX6_lead_12 : decode cX6_lead 12 = .ok (.if_icmp .le 8, 3) := by decide +kernel
theorem dX6_lead_15 : decode cX6_lead 15 = .ok (.aload_n 0, 1) := by decide +kernel
theorem dX6_lead_16 : decode cX6_lead 16 = .ok (.invokevirtual 180, 3) := by decide +kernel
theorem dX6_lead_19 : decode cX6_lead 19 = .ok (.ireturn, 1) := by decide +kernel
theorem dX6_lead_20 : decode cX6_lead 20 = .ok (.aload_n 0, 1) := by decide +kernel
theorem dX6_lead_21 : decode cX6_lead 21 = .ok (.getfield 77, 3) := by decide +kernel
theorem dX6_lead_24 : decode cX6_lead 24 = .ok (.istore_n 2, 1) := by decide +kernel
theorem dX6_lead_25 : decode cX6_lead 25 = .ok (.aload_n 0, 1) := by decide +kernel
theorem dX6_lead_26 : decode cX6_lead 26 = .ok (.iload_n 1, 1) := by decide +kernel
theorem dX6_lead_27 : decode cX6_lead 27 = .ok (.putfield 77, 3) := by decide +kernel
theorem dX6_lead_30 : decode cX6_lead 30 = .ok (.iload_n 2, 1) := by decide +kernel
theorem dX6_lead_31 : decode cX6_lead 31 = .ok (.ireturn, 1) := by decide +kernel
