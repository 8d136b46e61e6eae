theorem dX11_thrown_0 : decode cX11_thrown 0 = .ok (.aload_n 0, 1) := by decide +kernel
theorem dX11_thrown_1 : decode cX11_thrown 1 = .ok (.getfield 3, 3) := by decide +kernel
theorem dX11_thrown_4 : decode cX11_thrown 4 = .ok (.ireturn, 1) := by decide +kernel
theorem dX11_may_0 : decode cX11_may 0 = .ok (.iload_n 1, 1) := by decide +kernel
theorem dX11_may_1 : decode cX11_may 1 = .ok (.ifCond .ne 25, 3) := by decide +kernel
theorem dX11_may_4 : decode cX11_may 4 = .ok (.aload_n 0, 1) := by decide +kernel
theorem dX11_may_5 : decode cX11_may 5 = .ok (.getfield 3, 3) := by decide +kernel
theorem dX11_may_8 : decode cX11_may 8 = .ok (.ifCond .ne 18, 3) := by decide +kernel
theorem dX11_may_11 : decode cX11_may 11 = .ok (.aload_n 0, 1) := by decide +kernel
theorem dX11_may_12 : decode cX11_may 12 = .ok (.iload_n 2, 1) := by decide +kernel
theorem dX11_may_13 : decode cX11_may 13 = .ok (.putfield 3, 3) := by decide +kernel
theorem dX11_may_16 : decode cX11_may 16 = .ok (.aload_n 0, 1) := by decide +kernel
theorem dX11_may_17 : decode cX11_may 17 = .ok (.getfield 7, 3) := by decide +kernel
theorem dX11_may_20 : decode cX11_may 20 = .ok (.iload_n 3, 1) := by decide +kernel
theorem dX11_may_21 : decode cX11_may 21 = .ok (.dup2, 1) := by decide +kernel
theorem dX11_may_22 : decode cX11_may 22 = .ok (.iaload, 1) := by decide +kernel
theorem dX11_may_23 : decode cX11_may 23 = .ok (.iconst 1, 1) := by decide +kernel
theorem dX11_may_24 : decode cX11_may 24 = .ok (.iadd, 1) := by decide +kernel
theorem dX11_may_25 : decode cX11_may 25 = .ok (.iastore, 1) := by decide +kernel
theorem dX11_may_26 : decode cX11_may 26 = .ok (.aload_n 0, 1) := by decide +kernel
theorem dX11_may_27 : decode cX11_may 27 = .ok (.getfield 3, 3) := by decide +kernel
theorem dX11_may_30 : decode cX11_may 30 = .ok (.ifCond .ne 7, 3) := by decide +kernel
theorem dX11_may_33 : decode cX11_may 33 = .ok (.iconst 1, 1) := by decide +kernel
theorem dX11_may_34 : decode cX11_may 34 = .ok (.goto 4, 3) := by decide +kernel
theorem dX11_may_37 : decode cX11_may 37 = .ok (.iconst 0, 1) := by decide +kernel
theorem dX11_may_38 : decode cX11_may 38 = .ok (.ireturn, 1) := by decide +kernel
theorem dX11_within_0 : decode cX11_within 0 = .ok (.iload_n 0, 1) := by decide +kernel
theorem dX11_within_1 : decode cX11_within 1 = .ok (.iload_n 1, 1) := by decide +kernel
theorem dX11_within_2 : decode cX11_within 2 = .ok (.if_icmp .lt 12, 3) := by decide +kernel
theorem dX11_within_5 : decode cX11_within 5 = .ok (.iload_n 0, 1) := by decide +kernel
theorem dX11_within_6 : decode cX11_within 6 = .ok (.iload_n 2, 1) := by decide +kernel
theorem dX11_within_7 : decode cX11_within 7 = .ok (.if_icmp .gt 7, 3) := by decide +kernel
theorem dX11_within_10 : decode cX11_within 10 = .ok (.iconst 1, 1) := by decide +kernel
theorem dX11_within_11 : decode cX11_within 11 = .ok (.goto 4, 3) := by decide +kernel
theorem dX11_within_14 : decode cX11_within 14 = .ok (.iconst 0, 1) := by decide +kernel
theorem dX11_within_15 : decode cX11_within 15 = .ok (.ireturn, 1) := by decide +kernel
theorem dX11_init_0 : decode cX11_init 0 = .ok (.aload_n 0, 1) := by decide +kernel
theorem dX11_init_1 : decode cX11_init 1 = .ok (.invokespecial 11, 3) := by decide +kernel
theorem dX11_init_4 : decode cX11_init 4 = .ok (.aload_n 0, 1) := by decide +kernel
theorem dX11_init_5 : decode cX11_init 5 = .ok (.iconst 2, 1) := by decide +kernel
theorem dX11_init_6 : decode cX11_init 6 = .ok (.newarray .int, 2) := by decide +kernel
theorem dX11_init_8 : decode cX11_init 8 = .ok (.putfield 7, 3) := by decide +kernel
theorem dX11_init_11 : decode cX11_init 11 = .ok (.aload_n 0, 1) := by decide +kernel
theorem dX11_init_12 : decode cX11_init 12 = .ok (.iconst (-1), 1) := by decide +kernel
theorem dX11_init_13 : decode cX11_init 13 = .ok (.putfield 17, 3) := by decide +kernel
theorem dX11_init_16 : decode cX11_init 16 = .ok (.aload_n 0, 1) := by decide +kernel
theorem dX11_init_17 : decode cX11_init 17 = .ok (.sipush 600, 3) := by decide +kernel
theorem dX11_init_20 : decode cX11_init 20 = .ok (.newarray .int, 2) := by decide +kernel
theorem dX11_init_22 : decode cX11_init 22 = .ok (.putfield 20, 3) := by decide +kernel
theorem dX11_init_25 : decode cX11_init 25 = .ok (.aload_n 0, 1) := by decide +kernel
theorem dX11_init_26 : decode cX11_init 26 = .ok (.bipush 6, 2) := by decide +kernel
theorem dX11_init_28 : decode cX11_init 28 = .ok (.newarray .int, 2) := by decide +kernel
theorem dX11_init_30 : decode cX11_init 30 = .ok (.putfield 23, 3) := by decide +kernel
theorem dX11_init_33 : decode cX11_init 33 = .ok (.aload_n 0, 1) := by decide +kernel
theorem dX11_init_34 : decode cX11_init 34 = .ok (.bipush 61, 2) := by decide +kernel
theorem dX11_init_36 : decode cX11_init 36 = .ok (.newarray .int, 2) := by decide +kernel
theorem dX11_init_38 : decode cX11_init 38 = .ok (.putfield 26, 3) := by decide +kernel
theorem dX11_init_41 : decode cX11_init 41 = .ok (.aload_n 0, 1) := by decide +kernel
theorem dX11_init_42 : decode cX11_init 42 = .ok (.bipush 61, 2) := by decide +kernel
theorem dX11_init_44 : decode cX11_init 44 = .ok (.newarray .int, 2) := by decide +kernel
theorem dX11_init_46 : decode cX11_init 46 = .ok (.putfield 29, 3) := by decide +kernel
theorem dX11_init_49 : decode cX11_init 49 = .ok (.aload_n 0, 1) := by decide +kernel
theorem dX11_init_50 : decode cX11_init 50 = .ok (.sipush 150, 3) := by decide +kernel
theorem dX11_init_53 : decode cX11_init 53 = .ok (.newarray .int, 2) := by decide +kernel
theorem dX11_init_55 : decode cX11_init 55 = .ok (.putfield 32, 3) := by decide +kernel
theorem dX11_init_58 : decode cX11_init 58 = .ok (.aload_n 0, 1) := by decide +kernel
theorem dX11_init_59 : decode cX11_init 59 = .ok (.sipush 150, 3) := by decide +kernel
theorem dX11_init_62 : decode cX11_init 62 = .ok (.newarray .int, 2) := by decide +kernel
theorem dX11_init_64 : decode cX11_init 64 = .ok (.putfield 35, 3) := by decide +kernel
theorem dX11_init_67 : decode cX11_init 67 = .ok (.aload_n 0, 1) := by decide +kernel
theorem dX11_init_68 : decode cX11_init 68 = .ok (.sipush 150, 3) := by decide +kernel
theorem dX11_init_71 : decode cX11_init 71 = .ok (.newarray .int, 2) := by decide +kernel
theorem dX11_init_73 : decode cX11_init 73 = .ok (.putfield 38, 3) := by decide +kernel
theorem dX11_init_76 : decode cX11_init 76 = .ok (.aload_n 0, 1) := by decide +kernel
theorem dX11_init_77 : decode cX11_init 77 = .ok (.sipush 150, 3) := by decide +kernel
theorem dX11_init_80 : decode cX11_init 80 = .ok (.newarray .int, 2) := by decide +kernel
theorem dX11_init_82 : decode cX11_init 82 = .ok (.putfield 41, 3) := by decide +kernel
theorem dX11_init_85 : decode cX11_init 85 = .ok (.aload_n 0, 1) := by decide +kernel
theorem dX11_init_86 : decode cX11_init 86 = .ok (.sipush 150, 3) := by decide +kernel
theorem dX11_init_89 : decode cX11_init 89 = .ok (.newarray .int, 2) := by decide +kernel
theorem dX11_init_91 : decode cX11_init 91 = .ok (.putfield 44, 3) := by decide +kernel
theorem dX11_init_94 : decode cX11_init 94 = .ok (.aload_n 0, 1) := by decide +kernel
theorem dX11_init_95 : decode cX11_init 95 = .ok (.bipush 7, 2) := by decide +kernel
theorem dX11_init_97 : decode cX11_init 97 = .ok (.newarray .int, 2) := by decide +kernel
theorem dX11_init_99 : decode cX11_init 99 = .ok (.putfield 47, 3) := by decide +kernel
theorem dX11_init_102 : decode cX11_init 102 = .ok (.aload_n 0, 1) := by decide +kernel
theorem dX11_init_103 : decode cX11_init 103 = .ok (.sipush 200, 3) := by decide +kernel
theorem dX11_init_106 : decode cX11_init 106 = .ok (.newarray .int, 2) := by decide +kernel
theorem dX11_init_108 : decode cX11_init 108 = .ok (.putfield 50, 3) := by decide +kernel
theorem dX11_init_111 : decode cX11_init 111 = .ok (.aload_n 0, 1) := by decide +kernel
theorem dX11_init_112 : decode cX11_init 112 = .ok (.sipush 200, 3) := by decide +kernel
theorem dX11_init_115 : decode cX11_init 115 = .ok (.newarray .int, 2) := by decide +kernel
theorem dX11_init_117 : decode cX11_init 117 = .ok (.putfield 53, 3) := by decide +kernel
theorem dX11_init_120 : decode cX11_init 120 = .ok (.aload_n 0, 1) := by decide +kernel
theorem dX11_init_121 : decode cX11_init 121 = .ok (.sipush 190, 3) := by decide +kernel
theorem dX11_init_124 : decode cX11_init 124 = .ok (.newarray .int, 2) := by decide +kernel
theorem dX11_init_126 : decode cX11_init 126 = .ok (.putfield 56, 3) := by decide +kernel
theorem dX11_init_129 : decode cX11_init 129 = .ok (.aload_n 0, 1) := by decide +kernel
theorem dX11_init_130 : decode cX11_init 130 = .ok (.sipush 190, 3) := by decide +kernel
theorem dX11_init_133 : decode cX11_init 133 = .ok (.newarray .int, 2) := by decide +kernel
theorem dX11_init_135 : decode cX11_init 135 = .ok (.putfield 59, 3) := by decide +kernel
theorem dX11_init_138 : decode cX11_init 138 = .ok (.aload_n 0, 1) := by decide +kernel
theorem dX11_init_139 : decode cX11_init 139 = .ok (.sipush 3040, 3) := by decide +kernel
theorem dX11_init_142 : decode cX11_init 142 = .ok (.newarray .int, 2) := by decide +kernel
theorem dX11_init_144 : decode cX11_init 144 = .ok (.putfield 62, 3) := by decide +kernel
theorem dX11_init_147 : decode cX11_init 147 = .ok (.aload_n 0, 1) := by decide +kernel
theorem dX11_init_148 : decode cX11_init 148 = .ok (.bipush 16, 2) := by decide +kernel
theorem dX11_init_150 : decode cX11_init 150 = .ok (.newarray .int, 2) := by decide +kernel
theorem dX11_init_152 : decode cX11_init 152 = .ok (.putfield 65, 3) := by decide +kernel
theorem dX11_init_155 : decode cX11_init 155 = .ok (.aload_n 0, 1) := by decide +kernel
theorem dX11_init_156 : decode cX11_init 156 = .ok (.bipush 16, 2) := by decide +kernel
theorem dX11_init_158 : decode cX11_init 158 = .ok (.newarray .int, 2) := by decide +kernel
theorem dX11_init_160 : decode cX11_init 160 = .ok (.putfield 68, 3) := by decide +kernel
theorem dX11_init_163 : decode cX11_init 163 = .ok (.aload_n 0, 1) := by decide +kernel
theorem dX11_init_164 : decode cX11_init 164 = .ok (.bipush 61, 2) := by decide +kernel
theorem dX11_init_166 : decode cX11_init 166 = .ok (.newarray .long, 2) := by decide +kernel
theorem dX11_init_168 : decode cX11_init 168 = .ok (.putfield 71, 3) := by decide +kernel
theorem dX11_init_171 : decode cX11_init 171 = .ok (.aload_n 0, 1) := by decide +kernel
theorem dX11_init_172 : decode cX11_init 172 = .ok (.bipush 61, 2) := by decide +kernel
theorem dX11_init_174 : decode cX11_init 174 = .ok (.newarray .int, 2) := by decide +kernel
theorem dX11_init_176 : decode cX11_init 176 = .ok (.putfield 75, 3) := by decide +kernel
theorem dX11_init_179 : decode cX11_init 179 = .ok (.aload_n 0, 1) := by decide +kernel
theorem dX11_init_180 : decode cX11_init 180 = .ok (.bipush 61, 2) := by decide +kernel
theorem dX11_init_182 : decode cX11_init 182 = .ok (.newarray .int, 2) := by decide +kernel
theorem dX11_init_184 : decode cX11_init 184 = .ok (.putfield 78, 3) := by decide +kernel
theorem dX11_init_187 : decode cX11_init 187 = .ok (.aload_n 0, 1) := by decide +kernel
theorem dX11_init_188 : decode cX11_init 188 = .ok (.bipush 61, 2) := by decide +kernel
theorem dX11_init_190 : decode cX11_init 190 = .ok (.newarray .int, 2) := by decide +kernel
theorem dX11_init_192 : decode cX11_init 192 = .ok (.putfield 81, 3) := by decide +kernel
theorem dX11_init_195 : decode cX11_init 195 = .ok (.aload_n 0, 1) := by decide +kernel
theorem dX11_init_196 : decode cX11_init 196 = .ok (.bipush 61, 2) := by decide +kernel
theorem dX11_init_198 : decode cX11_init 198 = .ok (.newarray .int, 2) := by decide +kernel
theorem dX11_init_200 : decode cX11_init 200 = .ok (.putfield 84, 3) := by decide +kernel
theorem dX11_init_203 : decode cX11_init 203 = .ok (.aload_n 0, 1) := by decide +kernel
theorem dX11_init_204 : decode cX11_init 204 = .ok (.bipush 61, 2) := by decide +kernel
theorem dX11_init_206 : decode cX11_init 206 = .ok (.newarray .boolean, 2) := by decide +kernel
theorem dX11_init_208 : decode cX11_init 208 = .ok (.putfield 87, 3) := by decide +kernel
theorem dX11_init_211 : decode cX11_init 211 = .ok (.aload_n 0, 1) := by decide +kernel
theorem dX11_init_212 : decode cX11_init 212 = .ok (.sipush 9693, 3) := by decide +kernel
theorem dX11_init_215 : decode cX11_init 215 = .ok (.newarray .int, 2) := by decide +kernel
theorem dX11_init_217 : decode cX11_init 217 = .ok (.putfield 91, 3) := by decide +kernel
theorem dX11_init_220 : decode cX11_init 220 = .ok (.aload_n 0, 1) := by decide +kernel
theorem dX11_init_221 : decode cX11_init 221 = .ok (.invokevirtual 94, 3) := by decide +kernel
theorem dX11_init_224 : decode cX11_init 224 = .ok (.aload_n 0, 1) := by decide +kernel
theorem dX11_init_225 : decode cX11_init 225 = .ok (.invokevirtual 97, 3) := by decide +kernel
theorem dX11_init_228 : decode cX11_init 228 = .ok (.return_, 1) := by decide +kernel
theorem dX11_feed_0 : decode cX11_feed 0 = .ok (.aload_n 0, 1) := by decide +kernel
theorem dX11_feed_1 : decode cX11_feed 1 = .ok (.iconst 0, 1) := by decide +kernel
theorem dX11_feed_2 : decode cX11_feed 2 = .ok (.putfield 3, 3) := by decide +kernel
theorem dX11_feed_5 : decode cX11_feed 5 = .ok (.aload_n 0, 1) := by decide +kernel
theorem dX11_feed_6 : decode cX11_feed 6 = .ok (.getfield 100, 3) := by decide +kernel
theorem dX11_feed_9 : decode cX11_feed 9 = .ok (.bipush 20, 2) := by decide +kernel
theorem dX11_feed_11 : decode cX11_feed 11 = .ok (.iadd, 1) := by decide +kernel
theorem dX11_feed_12 : decode cX11_feed 12 = .ok (.sipush 600, 3) := by decide +kernel
theorem dX11_feed_15 : decode cX11_feed 15 = .ok (.if_icmp .le 5, 3) := by decide +kernel
theorem dX11_feed_18 : decode cX11_feed 18 = .ok (.iconst (-1), 1) := by decide +kernel
theorem dX11_feed_19 : decode cX11_feed 19 = .ok (.ireturn, 1) := by decide +kernel
theorem dX11_feed_20 : decode cX11_feed 20 = .ok (.iconst 0, 1) := by decide +kernel
theorem dX11_feed_21 : decode cX11_feed 21 = .ok (.istore 6, 2) := by decide +kernel
theorem dX11_feed_23 : decode cX11_feed 23 = .ok (.iload 6, 2) := by decide +kernel
theorem dX11_feed_25 : decode cX11_feed 25 = .ok (.bipush 20, 2) := by decide +kernel
theorem dX11_feed_27 : decode cX11_feed 27 = .ok (.if_icmp .ge 93, 3) := by decide +kernel
theorem dX11_feed_30 : decode cX11_feed 30 = .ok (.iload 6, 2) := by decide +kernel
theorem dX11_feed_32 : decode cX11_feed 32 = .ok (.iconst 4, 1) := by decide +kernel
theorem dX11_feed_33 : decode cX11_feed 33 = .ok (.if_icmp .ge 7, 3) := by decide +kernel
theorem dX11_feed_36 : decode cX11_feed 36 = .ok (.iload_n 1, 1) := by decide +kernel
theorem dX11_feed_37 : decode cX11_feed 37 = .ok (.goto 39, 3) := by decide +kernel
theorem dX11_feed_40 : decode cX11_feed 40 = .ok (.iload 6, 2) := by decide +kernel
theorem dX11_feed_42 : decode cX11_feed 42 = .ok (.bipush 8, 2) := by decide +kernel
theorem dX11_feed_44 : decode cX11_feed 44 = .ok (.if_icmp .ge 7, 3) := by decide +kernel
theorem dX11_feed_47 : decode cX11_feed 47 = .ok (.iload_n 2, 1) := by decide +kernel
theorem dX11_feed_48 : decode cX11_feed 48 = .ok (.goto 28, 3) := by decide +kernel
theorem dX11_feed_51 : decode cX11_feed 51 = .ok (.iload 6, 2) := by decide +kernel
theorem dX11_feed_53 : decode cX11_feed 53 = .ok (.bipush 12, 2) := by decide +kernel
theorem dX11_feed_55 : decode cX11_feed 55 = .ok (.if_icmp .ge 7, 3) := by decide +kernel
theorem dX11_feed_58 : decode cX11_feed 58 = .ok (.iload_n 3, 1) := by decide +kernel
theorem dX11_feed_59 : decode cX11_feed 59 = .ok (.goto 17, 3) := by decide +kernel
theorem dX11_feed_62 : decode cX11_feed 62 = .ok (.iload 6, 2) := by decide +kernel
theorem dX11_feed_64 : decode cX11_feed 64 = .ok (.bipush 16, 2) := by decide +kernel
theorem dX11_feed_66 : decode cX11_feed 66 = .ok (.if_icmp .ge 8, 3) := by decide +kernel
theorem dX11_feed_69 : decode cX11_feed 69 = .ok (.iload 4, 2) := by decide +kernel
theorem dX11_feed_71 : decode cX11_feed 71 = .ok (.goto 5, 3) := by decide +kernel
theorem dX11_feed_74 : decode cX11_feed 74 = .ok (.iload 5, 2) := by decide +kernel
theorem dX11_feed_76 : decode cX11_feed 76 = .ok (.istore 7, 2) := by decide +kernel
theorem dX11_feed_78 : decode cX11_feed 78 = .ok (.aload_n 0, 1) := by decide +kernel
theorem dX11_feed_79 : decode cX11_feed 79 = .ok (.getfield 20, 3) := by decide +kernel
theorem dX11_feed_82 : decode cX11_feed 82 = .ok (.aload_n 0, 1) := by decide +kernel
theorem dX11_feed_83 : decode cX11_feed 83 = .ok (.getfield 100, 3) := by decide +kernel
theorem dX11_feed_86 : decode cX11_feed 86 = .ok (.iload 7, 2) := by decide +kernel
theorem dX11_feed_88 : decode cX11_feed 88 = .ok (.bipush 24, 2) := by decide +kernel
theorem dX11_feed_90 : decode cX11_feed 90 = .ok (.bipush 8, 2) := by decide +kernel
theorem dX11_feed_92 : decode cX11_feed 92 = .ok (.iload 6, 2) := by decide +kernel
theorem dX11_feed_94 : decode cX11_feed 94 = .ok (.iconst 4, 1) := by decide +kernel
theorem dX11_feed_95 : decode cX11_feed 95 = .ok (.irem, 1) := by decide +kernel
theorem dX11_feed_96 : decode cX11_feed 96 = .ok (.imul, 1) := by decide +kernel
theorem dX11_feed_97 : decode cX11_feed 97 = .ok (.isub, 1) := by decide +kernel
theorem dX11_feed_98 : decode cX11_feed 98 = .ok (.ishr, 1) := by decide +kernel
theorem dX11_feed_99 : decode cX11_feed 99 = .ok (.sipush 255, 3) := by decide +kernel
theorem dX11_feed_102 : decode cX11_feed 102 = .ok (.iand, 1) := by decide +kernel
theorem dX11_feed_103 : decode cX11_feed 103 = .ok (.iastore, 1) := by decide +kernel
theorem dX11_feed_104 : decode cX11_feed 104 = .ok (.aload_n 0, 1) := by decide +kernel
theorem dX11_feed_105 : decode cX11_feed 105 = .ok (.dup, 1) := by decide +kernel
theorem dX11_feed_106 : decode cX11_feed 106 = .ok (.getfield 100, 3) := by decide +kernel
theorem dX11_feed_109 : decode cX11_feed 109 = .ok (.iconst 1, 1) := by decide +kernel
theorem dX11_feed_110 : decode cX11_feed 110 = .ok (.iadd, 1) := by decide +kernel
theorem dX11_feed_111 : decode cX11_feed 111 = .ok (.putfield 100, 3) := by decide +kernel
theorem dX11_feed_114 : decode cX11_feed 114 = .ok (.iinc 6 1, 3) := by decide +kernel
theorem dX11_feed_117 : decode cX11_feed 117 = .ok (.goto (-94), 3) := by decide +kernel
theorem dX11_feed_120 : decode cX11_feed 120 = .ok (.aload_n 0, 1) := by decide +kernel
theorem dX11_feed_121 : decode cX11_feed 121 = .ok (.getfield 100, 3) := by decide +kernel
theorem dX11_feed_124 : decode cX11_feed 124 = .ok (.ireturn, 1) := by decide +kernel
theorem dX11_fine_0 : decode cX11_fine 0 = .ok (.aload_n 0, 1) := by decide +kernel
theorem dX11_fine_1 : decode cX11_fine 1 = .ok (.getfield 103, 3) := by decide +kernel
theorem dX11_fine_4 : decode cX11_fine 4 = .ok (.iconst (-1), 1) := by decide +kernel
theorem dX11_fine_5 : decode cX11_fine 5 = .ok (.if_icmp .ne 7, 3) := by decide +kernel
theorem dX11_fine_8 : decode cX11_fine 8 = .ok (.iconst 1, 1) := by decide +kernel
theorem dX11_fine_9 : decode cX11_fine 9 = .ok (.goto 4, 3) := by decide +kernel
theorem dX11_fine_12 : decode cX11_fine 12 = .ok (.iconst 0, 1) := by decide +kernel
theorem dX11_fine_13 : decode cX11_fine 13 = .ok (.ireturn, 1) := by decide +kernel
theorem dX11_wrong_0 : decode cX11_wrong 0 = .ok (.aload_n 0, 1) := by decide +kernel
theorem dX11_wrong_1 : decode cX11_wrong 1 = .ok (.getfield 103, 3) := by decide +kernel
theorem dX11_wrong_4 : decode cX11_wrong 4 = .ok (.iconst (-1), 1) := by decide +kernel
theorem dX11_wrong_5 : decode cX11_wrong 5 = .ok (.if_icmp .eq 4, 3) := by decide +kernel
theorem dX11_wrong_8 : decode cX11_wrong 8 = .ok (.return_, 1) := by decide +kernel
theorem dX11_wrong_9 : decode cX11_wrong 9 = .ok (.aload_n 0, 1) := by decide +kernel
theorem dX11_wrong_10 : decode cX11_wrong 10 = .ok (.iload_n 2, 1) := by decide +kernel
theorem dX11_wrong_11 : decode cX11_wrong 11 = .ok (.putfield 103, 3) := by decide +kernel
theorem dX11_wrong_14 : decode cX11_wrong 14 = .ok (.aload_n 0, 1) := by decide +kernel
theorem dX11_wrong_15 : decode cX11_wrong 15 = .ok (.iload_n 1, 1) := by decide +kernel
theorem dX11_wrong_16 : decode cX11_wrong 16 = .ok (.putfield 106, 3) := by decide +kernel
theorem dX11_wrong_19 : decode cX11_wrong 19 = .ok (.return_, 1) := by decide +kernel
theorem dX11_here_0 : decode cX11_here 0 = .ok (.aload_n 0, 1) := by decide +kernel
theorem dX11_here_1 : decode cX11_here 1 = .ok (.getfield 109, 3) := by decide +kernel
theorem dX11_here_4 : decode cX11_here 4 = .ok (.aload_n 0, 1) := by decide +kernel
theorem dX11_here_5 : decode cX11_here 5 = .ok (.getfield 112, 3) := by decide +kernel
theorem dX11_here_8 : decode cX11_here 8 = .ok (.if_icmp .ge 30, 3) := by decide +kernel
theorem dX11_here_11 : decode cX11_here 11 = .ok (.aload_n 0, 1) := by decide +kernel
theorem dX11_here_12 : decode cX11_here 12 = .ok (.getfield 20, 3) := by decide +kernel
theorem dX11_here_15 : decode cX11_here 15 = .ok (.aload_n 0, 1) := by decide +kernel
theorem dX11_here_16 : decode cX11_here 16 = .ok (.getfield 109, 3) := by decide +kernel
theorem dX11_here_19 : decode cX11_here 19 = .ok (.iaload, 1) := by decide +kernel
theorem dX11_here_20 : decode cX11_here 20 = .ok (.bipush 32, 2) := by decide +kernel
theorem dX11_here_22 : decode cX11_here 22 = .ok (.if_icmp .ne 16, 3) := by decide +kernel
theorem dX11_here_25 : decode cX11_here 25 = .ok (.aload_n 0, 1) := by decide +kernel
theorem dX11_here_26 : decode cX11_here 26 = .ok (.dup, 1) := by decide +kernel
theorem dX11_here_27 : decode cX11_here 27 = .ok (.getfield 109, 3) := by decide +kernel
theorem dX11_here_30 : decode cX11_here 30 = .ok (.iconst 1, 1) := by decide +kernel
theorem dX11_here_31 : decode cX11_here 31 = .ok (.iadd, 1) := by decide +kernel
theorem dX11_here_32 : decode cX11_here 32 = .ok (.putfield 109, 3) := by decide +kernel
theorem dX11_here_35 : decode cX11_here 35 = .ok (.goto (-35), 3) := by decide +kernel
theorem dX11_here_38 : decode cX11_here 38 = .ok (.aload_n 0, 1) := by decide +kernel
theorem dX11_here_39 : decode cX11_here 39 = .ok (.getfield 109, 3) := by decide +kernel
theorem dX11_here_42 : decode cX11_here 42 = .ok (.aload_n 0, 1) := by decide +kernel
theorem dX11_here_43 : decode cX11_here 43 = .ok (.getfield 112, 3) := by decide +kernel
theorem dX11_here_46 : decode cX11_here 46 = .ok (.if_icmp .ge 15, 3) := by decide +kernel
theorem dX11_here_49 : decode cX11_here 49 = .ok (.aload_n 0, 1) := by decide +kernel
theorem dX11_here_50 : decode cX11_here 50 = .ok (.getfield 20, 3) := by decide +kernel
theorem dX11_here_53 : decode cX11_here 53 = .ok (.aload_n 0, 1) := by decide +kernel
theorem dX11_here_54 : decode cX11_here 54 = .ok (.getfield 109, 3) := by decide +kernel
theorem dX11_here_57 : decode cX11_here 57 = .ok (.iaload, 1) := by decide +kernel
theorem dX11_here_58 : decode cX11_here 58 = .ok (.goto 4, 3) := by decide +kernel
theorem dX11_here_61 : decode cX11_here 61 = .ok (.iconst 0, 1) := by decide +kernel
theorem dX11_here_62 : decode cX11_here 62 = .ok (.ireturn, 1) := by decide +kernel
theorem dX11_isSmall_0 : decode cX11_isSmall 0 = .ok (.iload_n 0, 1) := by decide +kernel
theorem dX11_isSmall_1 : decode cX11_isSmall 1 = .ok (.bipush 97, 2) := by decide +kernel
theorem dX11_isSmall_3 : decode cX11_isSmall 3 = .ok (.if_icmp .lt 13, 3) := by decide +kernel
theorem dX11_isSmall_6 : decode cX11_isSmall 6 = .ok (.iload_n 0, 1) := by decide +kernel
theorem dX11_isSmall_7 : decode cX11_isSmall 7 = .ok (.bipush 122, 2) := by decide +kernel
theorem dX11_isSmall_9 : decode cX11_isSmall 9 = .ok (.if_icmp .gt 7, 3) := by decide +kernel
theorem dX11_isSmall_12 : decode cX11_isSmall 12 = .ok (.iconst 1, 1) := by decide +kernel
theorem dX11_isSmall_13 : decode cX11_isSmall 13 = .ok (.goto 4, 3) := by decide +kernel
theorem dX11_isSmall_16 : decode cX11_isSmall 16 = .ok (.iconst 0, 1) := by decide +kernel
theorem dX11_isSmall_17 : decode cX11_isSmall 17 = .ok (.ireturn, 1) := by decide +kernel
theorem dX11_isDigit_0 : decode cX11_isDigit 0 = .ok (.iload_n 0, 1) := by decide +kernel
theorem dX11_isDigit_1 : decode cX11_isDigit 1 = .ok (.bipush 48, 2) := by decide +kernel
theorem dX11_isDigit_3 : decode cX11_isDigit 3 = .ok (.if_icmp .lt 13, 3) := by decide +kernel
theorem dX11_isDigit_6 : decode cX11_isDigit 6 = .ok (.iload_n 0, 1) := by decide +kernel
theorem dX11_isDigit_7 : decode cX11_isDigit 7 = .ok (.bipush 57, 2) := by decide +kernel
theorem dX11_isDigit_9 : decode cX11_isDigit 9 = .ok (.if_icmp .gt 7, 3) := by decide +kernel
theorem dX11_isDigit_12 : decode cX11_isDigit 12 = .ok (.iconst 1, 1) := by decide +kernel
theorem dX11_isDigit_13 : decode cX11_isDigit 13 = .ok (.goto 4, 3) := by decide +kernel
theorem dX11_isDigit_16 : decode cX11_isDigit 16 = .ok (.iconst 0, 1) := by decide +kernel
theorem dX11_isDigit_17 : decode cX11_isDigit 17 = .ok (.ireturn, 1) := by decide +kernel
theorem dX11_word_0 : decode cX11_word 0 = .ok (.aload_n 0, 1) := by decide +kernel
theorem dX11_word_1 : decode cX11_word 1 = .ok (.invokevirtual 115, 3) := by decide +kernel
theorem dX11_word_4 : decode cX11_word 4 = .ok (.pop, 1) := by decide +kernel
theorem dX11_word_5 : decode cX11_word 5 = .ok (.iconst 0, 1) := by decide +kernel
theorem dX11_word_6 : decode cX11_word 6 = .ok (.istore_n 1, 1) := by decide +kernel
theorem dX11_word_7 : decode cX11_word 7 = .ok (.iconst 0, 1) := by decide +kernel
theorem dX11_word_8 : decode cX11_word 8 = .ok (.istore_n 2, 1) := by decide +kernel
theorem dX11_word_9 : decode cX11_word 9 = .ok (.aload_n 0, 1) := by decide +kernel
theorem dX11_word_10 : decode cX11_word 10 = .ok (.getfield 109, 3) := by decide +kernel
theorem dX11_word_13 : decode cX11_word 13 = .ok (.istore_n 3, 1) := by decide +kernel
theorem dX11_word_14 : decode cX11_word 14 = .ok (.iload_n 3, 1) := by decide +kernel
theorem dX11_word_15 : decode cX11_word 15 = .ok (.aload_n 0, 1) := by decide +kernel
theorem dX11_word_16 : decode cX11_word 16 = .ok (.getfield 112, 3) := by decide +kernel
theorem dX11_word_19 : decode cX11_word 19 = .ok (.if_icmp .ge 48, 3) := by decide +kernel
theorem dX11_word_22 : decode cX11_word 22 = .ok (.aload_n 0, 1) := by decide +kernel
theorem dX11_word_23 : decode cX11_word 23 = .ok (.getfield 20, 3) := by decide +kernel
theorem dX11_word_26 : decode cX11_word 26 = .ok (.iload_n 3, 1) := by decide +kernel
theorem dX11_word_27 : decode cX11_word 27 = .ok (.iaload, 1) := by decide +kernel
theorem dX11_word_28 : decode cX11_word 28 = .ok (.invokestatic 119, 3) := by decide +kernel
theorem dX11_word_31 : decode cX11_word 31 = .ok (.ifCond .eq 36, 3) := by decide +kernel
theorem dX11_word_34 : decode cX11_word 34 = .ok (.iload_n 2, 1) := by decide +kernel
theorem dX11_word_35 : decode cX11_word 35 = .ok (.bipush 6, 2) := by decide +kernel
theorem dX11_word_37 : decode cX11_word 37 = .ok (.if_icmp .ge 19, 3) := by decide +kernel
theorem dX11_word_40 : decode cX11_word 40 = .ok (.iload_n 1, 1) := by decide +kernel
theorem dX11_word_41 : decode cX11_word 41 = .ok (.iconst 5, 1) := by decide +kernel
theorem dX11_word_42 : decode cX11_word 42 = .ok (.ishl, 1) := by decide +kernel
theorem dX11_word_43 : decode cX11_word 43 = .ok (.aload_n 0, 1) := by decide +kernel
theorem dX11_word_44 : decode cX11_word 44 = .ok (.getfield 20, 3) := by decide +kernel
theorem dX11_word_47 : decode cX11_word 47 = .ok (.iload_n 3, 1) := by decide +kernel
theorem dX11_word_48 : decode cX11_word 48 = .ok (.iaload, 1) := by decide +kernel
theorem dX11_word_49 : decode cX11_word 49 = .ok (.bipush 96, 2) := by decide +kernel
theorem dX11_word_51 : decode cX11_word 51 = .ok (.isub, 1) := by decide +kernel
theorem dX11_word_52 : decode cX11_word 52 = .ok (.ior, 1) := by decide +kernel
theorem dX11_word_53 : decode cX11_word 53 = .ok (.goto 4, 3) := by decide +kernel
theorem dX11_word_56 : decode cX11_word 56 = .ok (.iconst 0, 1) := by decide +kernel
theorem dX11_word_57 : decode cX11_word 57 = .ok (.istore_n 1, 1) := by decide +kernel
theorem dX11_word_58 : decode cX11_word 58 = .ok (.iinc 2 1, 3) := by decide +kernel
theorem dX11_word_61 : decode cX11_word 61 = .ok (.iinc 3 1, 3) := by decide +kernel
theorem dX11_word_64 : decode cX11_word 64 = .ok (.goto (-50), 3) := by decide +kernel
theorem dX11_word_67 : decode cX11_word 67 = .ok (.iload_n 2, 1) := by decide +kernel
theorem dX11_word_68 : decode cX11_word 68 = .ok (.bipush 6, 2) := by decide +kernel
theorem dX11_word_70 : decode cX11_word 70 = .ok (.if_icmp .le 7, 3) := by decide +kernel
theorem dX11_word_73 : decode cX11_word 73 = .ok (.iconst 0, 1) := by decide +kernel
theorem dX11_word_74 : decode cX11_word 74 = .ok (.goto 4, 3) := by decide +kernel
theorem dX11_word_77 : decode cX11_word 77 = .ok (.iload_n 1, 1) := by decide +kernel
theorem dX11_word_78 : decode cX11_word 78 = .ok (.ireturn, 1) := by decide +kernel
theorem dX11_of_0 : decode cX11_of 0 = .ok (.iconst 0, 1) := by decide +kernel
theorem dX11_of_1 : decode cX11_of 1 = .ok (.istore_n 1, 1) := by decide +kernel
theorem dX11_of_2 : decode cX11_of 2 = .ok (.iconst 0, 1) := by decide +kernel
theorem dX11_of_3 : decode cX11_of 3 = .ok (.istore_n 2, 1) := by decide +kernel
theorem dX11_of_4 : decode cX11_of 4 = .ok (.iload_n 2, 1) := by decide +kernel
theorem dX11_of_5 : decode cX11_of 5 = .ok (.aload_n 0, 1) := by decide +kernel
theorem dX11_of_6 : decode cX11_of 6 = .ok (.invokevirtual 123, 3) := by decide +kernel
theorem dX11_of_9 : decode cX11_of 9 = .ok (.if_icmp .ge 22, 3) := by decide +kernel
theorem dX11_of_12 : decode cX11_of 12 = .ok (.iload_n 1, 1) := by decide +kernel
theorem dX11_of_13 : decode cX11_of 13 = .ok (.iconst 5, 1) := by decide +kernel
theorem dX11_of_14 : decode cX11_of 14 = .ok (.ishl, 1) := by decide +kernel
theorem dX11_of_15 : decode cX11_of 15 = .ok (.aload_n 0, 1) := by decide +kernel
theorem dX11_of_16 : decode cX11_of 16 = .ok (.iload_n 2, 1) := by decide +kernel
theorem dX11_of_17 : decode cX11_of 17 = .ok (.invokevirtual 128, 3) := by decide +kernel
theorem dX11_of_20 : decode cX11_of 20 = .ok (.bipush 96, 2) := by decide +kernel
theorem dX11_of_22 : decode cX11_of 22 = .ok (.isub, 1) := by decide +kernel
theorem dX11_of_23 : decode cX11_of 23 = .ok (.ior, 1) := by decide +kernel
theorem dX11_of_24 : decode cX11_of 24 = .ok (.istore_n 1, 1) := by decide +kernel
theorem dX11_of_25 : decode cX11_of 25 = .ok (.iinc 2 1, 3) := by decide +kernel
theorem dX11_of_28 : decode cX11_of 28 = .ok (.goto (-24), 3) := by decide +kernel
theorem dX11_of_31 : decode cX11_of 31 = .ok (.iload_n 1, 1) := by decide +kernel
theorem dX11_of_32 : decode cX11_of 32 = .ok (.ireturn, 1) := by decide +kernel
theorem dX11_pass_0 : decode cX11_pass 0 = .ok (.aload_n 0, 1) := by decide +kernel
theorem dX11_pass_1 : decode cX11_pass 1 = .ok (.getfield 109, 3) := by decide +kernel
theorem dX11_pass_4 : decode cX11_pass 4 = .ok (.aload_n 0, 1) := by decide +kernel
theorem dX11_pass_5 : decode cX11_pass 5 = .ok (.getfield 112, 3) := by decide +kernel
theorem dX11_pass_8 : decode cX11_pass 8 = .ok (.if_icmp .ge 31, 3) := by decide +kernel
theorem dX11_pass_11 : decode cX11_pass 11 = .ok (.aload_n 0, 1) := by decide +kernel
theorem dX11_pass_12 : decode cX11_pass 12 = .ok (.getfield 20, 3) := by decide +kernel
theorem dX11_pass_15 : decode cX11_pass 15 = .ok (.aload_n 0, 1) := by decide +kernel
theorem dX11_pass_16 : decode cX11_pass 16 = .ok (.getfield 109, 3) := by decide +kernel
theorem dX11_pass_19 : decode cX11_pass 19 = .ok (.iaload, 1) := by decide +kernel
theorem dX11_pass_20 : decode cX11_pass 20 = .ok (.invokestatic 119, 3) := by decide +kernel
theorem dX11_pass_23 : decode cX11_pass 23 = .ok (.ifCond .eq 16, 3) := by decide +kernel
theorem dX11_pass_26 : decode cX11_pass 26 = .ok (.aload_n 0, 1) := by decide +kernel
theorem dX11_pass_27 : decode cX11_pass 27 = .ok (.dup, 1) := by decide +kernel
theorem dX11_pass_28 : decode cX11_pass 28 = .ok (.getfield 109, 3) := by decide +kernel
theorem dX11_pass_31 : decode cX11_pass 31 = .ok (.iconst 1, 1) := by decide +kernel
theorem dX11_pass_32 : decode cX11_pass 32 = .ok (.iadd, 1) := by decide +kernel
theorem dX11_pass_33 : decode cX11_pass 33 = .ok (.putfield 109, 3) := by decide +kernel
theorem dX11_pass_36 : decode cX11_pass 36 = .ok (.goto (-36), 3) := by decide +kernel
theorem dX11_pass_39 : decode cX11_pass 39 = .ok (.return_, 1) := by decide +kernel
theorem dX11_readNumber_0 : decode cX11_readNumber 0 = .ok (.aload_n 0, 1) := by decide +kernel
theorem dX11_readNumber_1 : decode cX11_readNumber 1 = .ok (.invokevirtual 132, 3) := by decide +kernel
theorem dX11_readNumber_4 : decode cX11_readNumber 4 = .ok (.ifCond .ne 5, 3) := by decide +kernel
theorem dX11_readNumber_7 : decode cX11_readNumber 7 = .ok (.iconst 0, 1) := by decide +kernel
theorem dX11_readNumber_8 : decode cX11_readNumber 8 = .ok (.ireturn, 1) := by decide +kernel
theorem dX11_readNumber_9 : decode cX11_readNumber 9 = .ok (.aload_n 0, 1) := by decide +kernel
theorem dX11_readNumber_10 : decode cX11_readNumber 10 = .ok (.invokevirtual 115, 3) := by decide +kernel
theorem dX11_readNumber_13 : decode cX11_readNumber 13 = .ok (.istore_n 3, 1) := by decide +kernel
theorem dX11_readNumber_14 : decode cX11_readNumber 14 = .ok (.aload_n 0, 1) := by decide +kernel
theorem dX11_readNumber_15 : decode cX11_readNumber 15 = .ok (.getfield 109, 3) := by decide +kernel
theorem dX11_readNumber_18 : decode cX11_readNumber 18 = .ok (.istore 4, 2) := by decide +kernel
theorem dX11_readNumber_20 : decode cX11_readNumber 20 = .ok (.iconst 0, 1) := by decide +kernel
theorem dX11_readNumber_21 : decode cX11_readNumber 21 = .ok (.istore 5, 2) := by decide +kernel
theorem dX11_readNumber_23 : decode cX11_readNumber 23 = .ok (.iload_n 3, 1) := by decide +kernel
theorem dX11_readNumber_24 : decode cX11_readNumber 24 = .ok (.invokestatic 136, 3) := by decide +kernel
theorem dX11_readNumber_27 : decode cX11_readNumber 27 = .ok (.ifCond .ne 14, 3) := by decide +kernel
theorem dX11_readNumber_30 : decode cX11_readNumber 30 = .ok (.aload_n 0, 1) := by decide +kernel
theorem dX11_readNumber_31 : decode cX11_readNumber 31 = .ok (.iconst 1, 1) := by decide +kernel
theorem dX11_readNumber_32 : decode cX11_readNumber 32 = .ok (.aload_n 0, 1) := by decide +kernel
theorem dX11_readNumber_33 : decode cX11_readNumber 33 = .ok (.getfield 109, 3) := by decide +kernel
theorem dX11_readNumber_36 : decode cX11_readNumber 36 = .ok (.invokevirtual 139, 3) := by decide +kernel
theorem dX11_readNumber_39 : decode cX11_readNumber 39 = .ok (.iconst 0, 1) := by decide +kernel
theorem dX11_readNumber_40 : decode cX11_readNumber 40 = .ok (.ireturn, 1) := by decide +kernel
theorem dX11_readNumber_41 : decode cX11_readNumber 41 = .ok (.aload_n 0, 1) := by decide +kernel
theorem dX11_readNumber_42 : decode cX11_readNumber 42 = .ok (.getfield 109, 3) := by decide +kernel
theorem dX11_readNumber_45 : decode cX11_readNumber 45 = .ok (.aload_n 0, 1) := by decide +kernel
theorem dX11_readNumber_46 : decode cX11_readNumber 46 = .ok (.getfield 112, 3) := by decide +kernel
theorem dX11_readNumber_49 : decode cX11_readNumber 49 = .ok (.if_icmp .ge 65, 3) := by decide +kernel
theorem dX11_readNumber_52 : decode cX11_readNumber 52 = .ok (.aload_n 0, 1) := by decide +kernel
theorem dX11_readNumber_53 : decode cX11_readNumber 53 = .ok (.getfield 20, 3) := by decide +kernel
theorem dX11_readNumber_56 : decode cX11_readNumber 56 = .ok (.aload_n 0, 1) := by decide +kernel
theorem dX11_readNumber_57 : decode cX11_readNumber 57 = .ok (.getfield 109, 3) := by decide +kernel
theorem dX11_readNumber_60 : decode cX11_readNumber 60 = .ok (.iaload, 1) := by decide +kernel
theorem dX11_readNumber_61 : decode cX11_readNumber 61 = .ok (.invokestatic 136, 3) := by decide +kernel
theorem dX11_readNumber_64 : decode cX11_readNumber 64 = .ok (.ifCond .eq 50, 3) := by decide +kernel
theorem dX11_readNumber_67 : decode cX11_readNumber 67 = .ok (.iload 5, 2) := by decide +kernel
theorem dX11_readNumber_69 : decode cX11_readNumber 69 = .ok (.sipush 9999, 3) := by decide +kernel
theorem dX11_readNumber_72 : decode cX11_readNumber 72 = .ok (.if_icmp .le 9, 3) := by decide +kernel
theorem dX11_readNumber_75 : decode cX11_readNumber 75 = .ok (.sipush 10000, 3) := by decide +kernel
theorem dX11_readNumber_78 : decode cX11_readNumber 78 = .ok (.goto 21, 3) := by decide +kernel
theorem dX11_readNumber_81 : decode cX11_readNumber 81 = .ok (.bipush 10, 2) := by decide +kernel
theorem dX11_readNumber_83 : decode cX11_readNumber 83 = .ok (.iload 5, 2) := by decide +kernel
theorem dX11_readNumber_85 : decode cX11_readNumber 85 = .ok (.imul, 1) := by decide +kernel
theorem dX11_readNumber_86 : decode cX11_readNumber 86 = .ok (.aload_n 0, 1) := by decide +kernel
theorem dX11_readNumber_87 : decode cX11_readNumber 87 = .ok (.getfield 20, 3) := by decide +kernel
theorem dX11_readNumber_90 : decode cX11_readNumber 90 = .ok (.aload_n 0, 1) := by decide +kernel
theorem dX11_readNumber_91 : decode cX11_readNumber 91 = .ok (.getfield 109, 3) := by decide +kernel
theorem dX11_readNumber_94 : decode cX11_readNumber 94 = .ok (.iaload, 1) := by decide +kernel
theorem dX11_readNumber_95 : decode cX11_readNumber 95 = .ok (.iadd, 1) := by decide +kernel
theorem dX11_readNumber_96 : decode cX11_readNumber 96 = .ok (.bipush 48, 2) := by decide +kernel
theorem dX11_readNumber_98 : decode cX11_readNumber 98 = .ok (.isub, 1) := by decide +kernel
theorem dX11_readNumber_99 : decode cX11_readNumber 99 = .ok (.istore 5, 2) := by decide +kernel
theorem dX11_readNumber_101 : decode cX11_readNumber 101 = .ok (.aload_n 0, 1) := by decide +kernel
theorem dX11_readNumber_102 : decode cX11_readNumber 102 = .ok (.dup, 1) := by decide +kernel
theorem dX11_readNumber_103 : decode cX11_readNumber 103 = .ok (.getfield 109, 3) := by decide +kernel
theorem dX11_readNumber_106 : decode cX11_readNumber 106 = .ok (.iconst 1, 1) := by decide +kernel
theorem dX11_readNumber_107 : decode cX11_readNumber 107 = .ok (.iadd, 1) := by decide +kernel
theorem dX11_readNumber_108 : decode cX11_readNumber 108 = .ok (.putfield 109, 3) := by decide +kernel
theorem dX11_readNumber_111 : decode cX11_readNumber 111 = .ok (.goto (-70), 3) := by decide +kernel
theorem dX11_readNumber_114 : decode cX11_readNumber 114 = .ok (.iload 5, 2) := by decide +kernel
theorem dX11_readNumber_116 : decode cX11_readNumber 116 = .ok (.iload_n 1, 1) := by decide +kernel
theorem dX11_readNumber_117 : decode cX11_readNumber 117 = .ok (.if_icmp .lt 9, 3) := by decide +kernel
theorem dX11_readNumber_120 : decode cX11_readNumber 120 = .ok (.iload 5, 2) := by decide +kernel
theorem dX11_readNumber_122 : decode cX11_readNumber 122 = .ok (.iload_n 2, 1) := by decide +kernel
theorem dX11_readNumber_123 : decode cX11_readNumber 123 = .ok (.if_icmp .le 12, 3) := by decide +kernel
theorem dX11_readNumber_126 : decode cX11_readNumber 126 = .ok (.aload_n 0, 1) := by decide +kernel
theorem dX11_readNumber_127 : decode cX11_readNumber 127 = .ok (.iconst 2, 1) := by decide +kernel
theorem dX11_readNumber_128 : decode cX11_readNumber 128 = .ok (.iload 4, 2) := by decide +kernel
theorem dX11_readNumber_130 : decode cX11_readNumber 130 = .ok (.invokevirtual 139, 3) := by decide +kernel
theorem dX11_readNumber_133 : decode cX11_readNumber 133 = .ok (.iconst 0, 1) := by decide +kernel
theorem dX11_readNumber_134 : decode cX11_readNumber 134 = .ok (.ireturn, 1) := by decide +kernel
theorem dX11_readNumber_135 : decode cX11_readNumber 135 = .ok (.iload 5, 2) := by decide +kernel
theorem dX11_readNumber_137 : decode cX11_readNumber 137 = .ok (.ireturn, 1) := by decide +kernel
theorem dX11_sign_0 : decode cX11_sign 0 = .ok (.aload_n 0, 1) := by decide +kernel
theorem dX11_sign_1 : decode cX11_sign 1 = .ok (.invokevirtual 132, 3) := by decide +kernel
theorem dX11_sign_4 : decode cX11_sign 4 = .ok (.ifCond .eq 20, 3) := by decide +kernel
theorem dX11_sign_7 : decode cX11_sign 7 = .ok (.aload_n 0, 1) := by decide +kernel
theorem dX11_sign_8 : decode cX11_sign 8 = .ok (.invokevirtual 115, 3) := by decide +kernel
theorem dX11_sign_11 : decode cX11_sign 11 = .ok (.iload_n 1, 1) := by decide +kernel
theorem dX11_sign_12 : decode cX11_sign 12 = .ok (.if_icmp .eq 12, 3) := by decide +kernel
theorem dX11_sign_15 : decode cX11_sign 15 = .ok (.aload_n 0, 1) := by decide +kernel
theorem dX11_sign_16 : decode cX11_sign 16 = .ok (.iconst 1, 1) := by decide +kernel
theorem dX11_sign_17 : decode cX11_sign 17 = .ok (.aload_n 0, 1) := by decide +kernel
theorem dX11_sign_18 : decode cX11_sign 18 = .ok (.getfield 109, 3) := by decide +kernel
theorem dX11_sign_21 : decode cX11_sign 21 = .ok (.invokevirtual 139, 3) := by decide +kernel
theorem dX11_sign_24 : decode cX11_sign 24 = .ok (.aload_n 0, 1) := by decide +kernel
theorem dX11_sign_25 : decode cX11_sign 25 = .ok (.invokevirtual 132, 3) := by decide +kernel
theorem dX11_sign_28 : decode cX11_sign 28 = .ok (.ifCond .eq 13, 3) := by decide +kernel
theorem dX11_sign_31 : decode cX11_sign 31 = .ok (.aload_n 0, 1) := by decide +kernel
theorem dX11_sign_32 : decode cX11_sign 32 = .ok (.dup, 1) := by decide +kernel
theorem dX11_sign_33 : decode cX11_sign 33 = .ok (.getfield 109, 3) := by decide +kernel
theorem dX11_sign_36 : decode cX11_sign 36 = .ok (.iconst 1, 1) := by decide +kernel
theorem dX11_sign_37 : decode cX11_sign 37 = .ok (.iadd, 1) := by decide +kernel
theorem dX11_sign_38 : decode cX11_sign 38 = .ok (.putfield 109, 3) := by decide +kernel
theorem dX11_sign_41 : decode cX11_sign 41 = .ok (.return_, 1) := by decide +kernel
theorem dX11_isMore_0 : decode cX11_isMore 0 = .ok (.aload_n 0, 1) := by decide +kernel
theorem dX11_isMore_1 : decode cX11_isMore 1 = .ok (.invokevirtual 115, 3) := by decide +kernel
theorem dX11_isMore_4 : decode cX11_isMore 4 = .ok (.pop, 1) := by decide +kernel
theorem dX11_isMore_5 : decode cX11_isMore 5 = .ok (.aload_n 0, 1) := by decide +kernel
theorem dX11_isMore_6 : decode cX11_isMore 6 = .ok (.getfield 109, 3) := by decide +kernel
theorem dX11_isMore_9 : decode cX11_isMore 9 = .ok (.aload_n 0, 1) := by decide +kernel
theorem dX11_isMore_10 : decode cX11_isMore 10 = .ok (.getfield 112, 3) := by decide +kernel
theorem dX11_isMore_13 : decode cX11_isMore 13 = .ok (.if_icmp .ge 7, 3) := by decide +kernel
theorem dX11_isMore_16 : decode cX11_isMore 16 = .ok (.iconst 1, 1) := by decide +kernel
theorem dX11_isMore_17 : decode cX11_isMore 17 = .ok (.goto 4, 3) := by decide +kernel
theorem dX11_isMore_20 : decode cX11_isMore 20 = .ok (.iconst 0, 1) := by decide +kernel
theorem dX11_isMore_21 : decode cX11_isMore 21 = .ok (.ireturn, 1) := by decide +kernel
theorem dX11_begins_0 : decode cX11_begins 0 = .ok (.aload_n 0, 1) := by decide +kernel
theorem dX11_begins_1 : decode cX11_begins 1 = .ok (.iconst 0, 1) := by decide +kernel
theorem dX11_begins_2 : decode cX11_begins 2 = .ok (.putfield 100, 3) := by decide +kernel
theorem dX11_begins_5 : decode cX11_begins 5 = .ok (.aload_n 0, 1) := by decide +kernel
theorem dX11_begins_6 : decode cX11_begins 6 = .ok (.iconst (-1), 1) := by decide +kernel
theorem dX11_begins_7 : decode cX11_begins 7 = .ok (.putfield 17, 3) := by decide +kernel
theorem dX11_begins_10 : decode cX11_begins 10 = .ok (.aload_n 0, 1) := by decide +kernel
theorem dX11_begins_11 : decode cX11_begins 11 = .ok (.iload_n 1, 1) := by decide +kernel
theorem dX11_begins_12 : decode cX11_begins 12 = .ok (.putfield 112, 3) := by decide +kernel
theorem dX11_begins_15 : decode cX11_begins 15 = .ok (.aload_n 0, 1) := by decide +kernel
theorem dX11_begins_16 : decode cX11_begins 16 = .ok (.iconst 0, 1) := by decide +kernel
theorem dX11_begins_17 : decode cX11_begins 17 = .ok (.putfield 109, 3) := by decide +kernel
theorem dX11_begins_20 : decode cX11_begins 20 = .ok (.aload_n 0, 1) := by decide +kernel
theorem dX11_begins_21 : decode cX11_begins 21 = .ok (.iconst (-1), 1) := by decide +kernel
theorem dX11_begins_22 : decode cX11_begins 22 = .ok (.putfield 103, 3) := by decide +kernel
theorem dX11_begins_25 : decode cX11_begins 25 = .ok (.aload_n 0, 1) := by decide +kernel
theorem dX11_begins_26 : decode cX11_begins 26 = .ok (.iconst 0, 1) := by decide +kernel
theorem dX11_begins_27 : decode cX11_begins 27 = .ok (.putfield 143, 3) := by decide +kernel
theorem dX11_begins_30 : decode cX11_begins 30 = .ok (.return_, 1) := by decide +kernel
theorem dX11_result_0 : decode cX11_result 0 = .ok (.aload_n 0, 1) := by decide +kernel
theorem dX11_result_1 : decode cX11_result 1 = .ok (.aload_n 0, 1) := by decide +kernel
theorem dX11_result_2 : decode cX11_result 2 = .ok (.getfield 103, 3) := by decide +kernel
theorem dX11_result_5 : decode cX11_result 5 = .ok (.putfield 17, 3) := by decide +kernel
theorem dX11_result_8 : decode cX11_result 8 = .ok (.aload_n 0, 1) := by decide +kernel
theorem dX11_result_9 : decode cX11_result 9 = .ok (.invokevirtual 132, 3) := by decide +kernel
theorem dX11_result_12 : decode cX11_result 12 = .ok (.ifCond .eq 7, 3) := by decide +kernel
theorem dX11_result_15 : decode cX11_result 15 = .ok (.iload_n 1, 1) := by decide +kernel
theorem dX11_result_16 : decode cX11_result 16 = .ok (.goto 10, 3) := by decide +kernel
theorem dX11_result_19 : decode cX11_result 19 = .ok (.aload_n 0, 1) := by decide +kernel
theorem dX11_result_20 : decode cX11_result 20 = .ok (.getfield 106, 3) := by decide +kernel
theorem dX11_result_23 : decode cX11_result 23 = .ok (.bipush 10, 2) := by decide +kernel
theorem dX11_result_25 : decode cX11_result 25 = .ok (.isub, 1) := by decide +kernel
theorem dX11_result_26 : decode cX11_result 26 = .ok (.ireturn, 1) := by decide +kernel
theorem dX11_fault_0 : decode cX11_fault 0 = .ok (.aload_n 0, 1) := by decide +kernel
theorem dX11_fault_1 : decode cX11_fault 1 = .ok (.iconst 0, 1) := by decide +kernel
theorem dX11_fault_2 : decode cX11_fault 2 = .ok (.putfield 3, 3) := by decide +kernel
theorem dX11_fault_5 : decode cX11_fault 5 = .ok (.aload_n 0, 1) := by decide +kernel
theorem dX11_fault_6 : decode cX11_fault 6 = .ok (.getfield 17, 3) := by decide +kernel
theorem dX11_fault_9 : decode cX11_fault 9 = .ok (.ireturn, 1) := by decide +kernel
theorem dX11_copies_0 : decode cX11_copies 0 = .ok (.iconst 0, 1) := by decide +kernel
theorem dX11_copies_1 : decode cX11_copies 1 = .ok (.istore 4, 2) := by decide +kernel
theorem dX11_copies_3 : decode cX11_copies 3 = .ok (.iload 4, 2) := by decide +kernel
theorem dX11_copies_5 : decode cX11_copies 5 = .ok (.iload_n 3, 1) := by decide +kernel
theorem dX11_copies_6 : decode cX11_copies 6 = .ok (.if_icmp .ge 17, 3) := by decide +kernel
theorem dX11_copies_9 : decode cX11_copies 9 = .ok (.aload_n 2, 1) := by decide +kernel
theorem dX11_copies_10 : decode cX11_copies 10 = .ok (.iload 4, 2) := by decide +kernel
theorem dX11_copies_12 : decode cX11_copies 12 = .ok (.aload_n 1, 1) := by decide +kernel
theorem dX11_copies_13 : decode cX11_copies 13 = .ok (.iload 4, 2) := by decide +kernel
theorem dX11_copies_15 : decode cX11_copies 15 = .ok (.iaload, 1) := by decide +kernel
theorem dX11_copies_16 : decode cX11_copies 16 = .ok (.iastore, 1) := by decide +kernel
theorem dX11_copies_17 : decode cX11_copies 17 = .ok (.iinc 4 1, 3) := by decide +kernel
theorem dX11_copies_20 : decode cX11_copies 20 = .ok (.goto (-17), 3) := by decide +kernel
theorem dX11_copies_23 : decode cX11_copies 23 = .ok (.return_, 1) := by decide +kernel
theorem dX11_clears_0 : decode cX11_clears 0 = .ok (.aload_n 0, 1) := by decide +kernel
theorem dX11_clears_1 : decode cX11_clears 1 = .ok (.iconst 0, 1) := by decide +kernel
theorem dX11_clears_2 : decode cX11_clears 2 = .ok (.putfield 146, 3) := by decide +kernel
theorem dX11_clears_5 : decode cX11_clears 5 = .ok (.aload_n 0, 1) := by decide +kernel
theorem dX11_clears_6 : decode cX11_clears 6 = .ok (.iconst 2, 1) := by decide +kernel
theorem dX11_clears_7 : decode cX11_clears 7 = .ok (.putfield 149, 3) := by decide +kernel
theorem dX11_clears_10 : decode cX11_clears 10 = .ok (.iconst 0, 1) := by decide +kernel
theorem dX11_clears_11 : decode cX11_clears 11 = .ok (.istore_n 1, 1) := by decide +kernel
theorem dX11_clears_12 : decode cX11_clears 12 = .ok (.iload_n 1, 1) := by decide +kernel
theorem dX11_clears_13 : decode cX11_clears 13 = .ok (.bipush 61, 2) := by decide +kernel
theorem dX11_clears_15 : decode cX11_clears 15 = .ok (.if_icmp .ge 23, 3) := by decide +kernel
theorem dX11_clears_18 : decode cX11_clears 18 = .ok (.aload_n 0, 1) := by decide +kernel
theorem dX11_clears_19 : decode cX11_clears 19 = .ok (.getfield 26, 3) := by decide +kernel
theorem dX11_clears_22 : decode cX11_clears 22 = .ok (.iload_n 1, 1) := by decide +kernel
theorem dX11_clears_23 : decode cX11_clears 23 = .ok (.iconst (-1), 1) := by decide +kernel
theorem dX11_clears_24 : decode cX11_clears 24 = .ok (.iastore, 1) := by decide +kernel
theorem dX11_clears_25 : decode cX11_clears 25 = .ok (.aload_n 0, 1) := by decide +kernel
theorem dX11_clears_26 : decode cX11_clears 26 = .ok (.getfield 29, 3) := by decide +kernel
theorem dX11_clears_29 : decode cX11_clears 29 = .ok (.iload_n 1, 1) := by decide +kernel
theorem dX11_clears_30 : decode cX11_clears 30 = .ok (.iconst 0, 1) := by decide +kernel
theorem dX11_clears_31 : decode cX11_clears 31 = .ok (.iastore, 1) := by decide +kernel
theorem dX11_clears_32 : decode cX11_clears 32 = .ok (.iinc 1 1, 3) := by decide +kernel
theorem dX11_clears_35 : decode cX11_clears 35 = .ok (.goto (-23), 3) := by decide +kernel
theorem dX11_clears_38 : decode cX11_clears 38 = .ok (.return_, 1) := by decide +kernel
theorem dX11_sets_0 : decode cX11_sets 0 = .ok (.aload_n 0, 1) := by decide +kernel
theorem dX11_sets_1 : decode cX11_sets 1 = .ok (.aload_n 0, 1) := by decide +kernel
theorem dX11_sets_2 : decode cX11_sets 2 = .ok (.getfield 146, 3) := by decide +kernel
theorem dX11_sets_5 : decode cX11_sets 5 = .ok (.putfield 152, 3) := by decide +kernel
theorem dX11_sets_8 : decode cX11_sets 8 = .ok (.aload_n 0, 1) := by decide +kernel
theorem dX11_sets_9 : decode cX11_sets 9 = .ok (.aload_n 0, 1) := by decide +kernel
theorem dX11_sets_10 : decode cX11_sets 10 = .ok (.getfield 149, 3) := by decide +kernel
theorem dX11_sets_13 : decode cX11_sets 13 = .ok (.putfield 155, 3) := by decide +kernel
theorem dX11_sets_16 : decode cX11_sets 16 = .ok (.aload_n 0, 1) := by decide +kernel
theorem dX11_sets_17 : decode cX11_sets 17 = .ok (.iconst 0, 1) := by decide +kernel
theorem dX11_sets_18 : decode cX11_sets 18 = .ok (.putfield 158, 3) := by decide +kernel
theorem dX11_sets_21 : decode cX11_sets 21 = .ok (.aload_n 0, 1) := by decide +kernel
theorem dX11_sets_22 : decode cX11_sets 22 = .ok (.iconst 0, 1) := by decide +kernel
theorem dX11_sets_23 : decode cX11_sets 23 = .ok (.putfield 161, 3) := by decide +kernel
theorem dX11_sets_26 : decode cX11_sets 26 = .ok (.aload_n 0, 1) := by decide +kernel
theorem dX11_sets_27 : decode cX11_sets 27 = .ok (.iconst 0, 1) := by decide +kernel
theorem dX11_sets_28 : decode cX11_sets 28 = .ok (.putfield 164, 3) := by decide +kernel
theorem dX11_sets_31 : decode cX11_sets 31 = .ok (.aload_n 0, 1) := by decide +kernel
theorem dX11_sets_32 : decode cX11_sets 32 = .ok (.iconst 0, 1) := by decide +kernel
theorem dX11_sets_33 : decode cX11_sets 33 = .ok (.putfield 167, 3) := by decide +kernel
theorem dX11_sets_36 : decode cX11_sets 36 = .ok (.aload_n 0, 1) := by decide +kernel
theorem dX11_sets_37 : decode cX11_sets 37 = .ok (.iconst 0, 1) := by decide +kernel
theorem dX11_sets_38 : decode cX11_sets 38 = .ok (.putfield 170, 3) := by decide +kernel
theorem dX11_sets_41 : decode cX11_sets 41 = .ok (.iconst 0, 1) := by decide +kernel
theorem dX11_sets_42 : decode cX11_sets 42 = .ok (.istore_n 1, 1) := by decide +kernel
theorem dX11_sets_43 : decode cX11_sets 43 = .ok (.iload_n 1, 1) := by decide +kernel
theorem dX11_sets_44 : decode cX11_sets 44 = .ok (.sipush 190, 3) := by decide +kernel
theorem dX11_sets_47 : decode cX11_sets 47 = .ok (.if_icmp .ge 16, 3) := by decide +kernel
theorem dX11_sets_50 : decode cX11_sets 50 = .ok (.aload_n 0, 1) := by decide +kernel
theorem dX11_sets_51 : decode cX11_sets 51 = .ok (.getfield 56, 3) := by decide +kernel
theorem dX11_sets_54 : decode cX11_sets 54 = .ok (.iload_n 1, 1) := by decide +kernel
theorem dX11_sets_55 : decode cX11_sets 55 = .ok (.iconst 0, 1) := by decide +kernel
theorem dX11_sets_56 : decode cX11_sets 56 = .ok (.iastore, 1) := by decide +kernel
theorem dX11_sets_57 : decode cX11_sets 57 = .ok (.iinc 1 1, 3) := by decide +kernel
theorem dX11_sets_60 : decode cX11_sets 60 = .ok (.goto (-17), 3) := by decide +kernel
theorem dX11_sets_63 : decode cX11_sets 63 = .ok (.iconst 0, 1) := by decide +kernel
theorem dX11_sets_64 : decode cX11_sets 64 = .ok (.istore_n 1, 1) := by decide +kernel
theorem dX11_sets_65 : decode cX11_sets 65 = .ok (.iload_n 1, 1) := by decide +kernel
theorem dX11_sets_66 : decode cX11_sets 66 = .ok (.aload_n 0, 1) := by decide +kernel
theorem dX11_sets_67 : decode cX11_sets 67 = .ok (.getfield 152, 3) := by decide +kernel
theorem dX11_sets_70 : decode cX11_sets 70 = .ok (.if_icmp .ge 25, 3) := by decide +kernel
theorem dX11_sets_73 : decode cX11_sets 73 = .ok (.aload_n 0, 1) := by decide +kernel
theorem dX11_sets_74 : decode cX11_sets 74 = .ok (.getfield 56, 3) := by decide +kernel
theorem dX11_sets_77 : decode cX11_sets 77 = .ok (.sipush 183, 3) := by decide +kernel
theorem dX11_sets_80 : decode cX11_sets 80 = .ok (.iload_n 1, 1) := by decide +kernel
theorem dX11_sets_81 : decode cX11_sets 81 = .ok (.iadd, 1) := by decide +kernel
theorem dX11_sets_82 : decode cX11_sets 82 = .ok (.aload_n 0, 1) := by decide +kernel
theorem dX11_sets_83 : decode cX11_sets 83 = .ok (.getfield 23, 3) := by decide +kernel
theorem dX11_sets_86 : decode cX11_sets 86 = .ok (.iload_n 1, 1) := by decide +kernel
theorem dX11_sets_87 : decode cX11_sets 87 = .ok (.iaload, 1) := by decide +kernel
theorem dX11_sets_88 : decode cX11_sets 88 = .ok (.iastore, 1) := by decide +kernel
theorem dX11_sets_89 : decode cX11_sets 89 = .ok (.iinc 1 1, 3) := by decide +kernel
theorem dX11_sets_92 : decode cX11_sets 92 = .ok (.goto (-27), 3) := by decide +kernel
theorem dX11_sets_95 : decode cX11_sets 95 = .ok (.iconst 0, 1) := by decide +kernel
theorem dX11_sets_96 : decode cX11_sets 96 = .ok (.istore_n 1, 1) := by decide +kernel
theorem dX11_sets_97 : decode cX11_sets 97 = .ok (.iload_n 1, 1) := by decide +kernel
theorem dX11_sets_98 : decode cX11_sets 98 = .ok (.bipush 61, 2) := by decide +kernel
theorem dX11_sets_100 : decode cX11_sets 100 = .ok (.if_icmp .ge 38, 3) := by decide +kernel
theorem dX11_sets_103 : decode cX11_sets 103 = .ok (.aload_n 0, 1) := by decide +kernel
theorem dX11_sets_104 : decode cX11_sets 104 = .ok (.getfield 56, 3) := by decide +kernel
theorem dX11_sets_107 : decode cX11_sets 107 = .ok (.iconst 0, 1) := by decide +kernel
theorem dX11_sets_108 : decode cX11_sets 108 = .ok (.iload_n 1, 1) := by decide +kernel
theorem dX11_sets_109 : decode cX11_sets 109 = .ok (.iadd, 1) := by decide +kernel
theorem dX11_sets_110 : decode cX11_sets 110 = .ok (.aload_n 0, 1) := by decide +kernel
theorem dX11_sets_111 : decode cX11_sets 111 = .ok (.getfield 26, 3) := by decide +kernel
theorem dX11_sets_114 : decode cX11_sets 114 = .ok (.iload_n 1, 1) := by decide +kernel
theorem dX11_sets_115 : decode cX11_sets 115 = .ok (.iaload, 1) := by decide +kernel
theorem dX11_sets_116 : decode cX11_sets 116 = .ok (.iastore, 1) := by decide +kernel
theorem dX11_sets_117 : decode cX11_sets 117 = .ok (.aload_n 0, 1) := by decide +kernel
theorem dX11_sets_118 : decode cX11_sets 118 = .ok (.getfield 56, 3) := by decide +kernel
theorem dX11_sets_121 : decode cX11_sets 121 = .ok (.bipush 61, 2) := by decide +kernel
theorem dX11_sets_123 : decode cX11_sets 123 = .ok (.iload_n 1, 1) := by decide +kernel
theorem dX11_sets_124 : decode cX11_sets 124 = .ok (.iadd, 1) := by decide +kernel
theorem dX11_sets_125 : decode cX11_sets 125 = .ok (.aload_n 0, 1) := by decide +kernel
theorem dX11_sets_126 : decode cX11_sets 126 = .ok (.getfield 29, 3) := by decide +kernel
theorem dX11_sets_129 : decode cX11_sets 129 = .ok (.iload_n 1, 1) := by decide +kernel
theorem dX11_sets_130 : decode cX11_sets 130 = .ok (.iaload, 1) := by decide +kernel
theorem dX11_sets_131 : decode cX11_sets 131 = .ok (.iastore, 1) := by decide +kernel
theorem dX11_sets_132 : decode cX11_sets 132 = .ok (.iinc 1 1, 3) := by decide +kernel
theorem dX11_sets_135 : decode cX11_sets 135 = .ok (.goto (-38), 3) := by decide +kernel
theorem dX11_sets_138 : decode cX11_sets 138 = .ok (.return_, 1) := by decide +kernel
theorem dX11_readRow_0 : decode cX11_readRow 0 = .ok (.iload_n 1, 1) := by decide +kernel
theorem dX11_readRow_1 : decode cX11_readRow 1 = .ok (.ldc 173, 2) := by decide +kernel
theorem dX11_readRow_3 : decode cX11_readRow 3 = .ok (.invokestatic 175, 3) := by decide +kernel
theorem dX11_readRow_6 : decode cX11_readRow 6 = .ok (.if_icmp .ne 33, 3) := by decide +kernel
theorem dX11_readRow_9 : decode cX11_readRow 9 = .ok (.aload_n 0, 1) := by decide +kernel
theorem dX11_readRow_10 : decode cX11_readRow 10 = .ok (.getfield 23, 3) := by decide +kernel
theorem dX11_readRow_13 : decode cX11_readRow 13 = .ok (.aload_n 0, 1) := by decide +kernel
theorem dX11_readRow_14 : decode cX11_readRow 14 = .ok (.getfield 146, 3) := by decide +kernel
theorem dX11_readRow_17 : decode cX11_readRow 17 = .ok (.aload_n 0, 1) := by decide +kernel
theorem dX11_readRow_18 : decode cX11_readRow 18 = .ok (.iconst 0, 1) := by decide +kernel
theorem dX11_readRow_19 : decode cX11_readRow 19 = .ok (.sipush 999, 3) := by decide +kernel
theorem dX11_readRow_22 : decode cX11_readRow 22 = .ok (.invokevirtual 179, 3) := by decide +kernel
theorem dX11_readRow_25 : decode cX11_readRow 25 = .ok (.iastore, 1) := by decide +kernel
theorem dX11_readRow_26 : decode cX11_readRow 26 = .ok (.aload_n 0, 1) := by decide +kernel
theorem dX11_readRow_27 : decode cX11_readRow 27 = .ok (.dup, 1) := by decide +kernel
theorem dX11_readRow_28 : decode cX11_readRow 28 = .ok (.getfield 146, 3) := by decide +kernel
theorem dX11_readRow_31 : decode cX11_readRow 31 = .ok (.iconst 1, 1) := by decide +kernel
theorem dX11_readRow_32 : decode cX11_readRow 32 = .ok (.iadd, 1) := by decide +kernel
theorem dX11_readRow_33 : decode cX11_readRow 33 = .ok (.putfield 146, 3) := by decide +kernel
theorem dX11_readRow_36 : decode cX11_readRow 36 = .ok (.goto 78, 3) := by decide +kernel
theorem dX11_readRow_39 : decode cX11_readRow 39 = .ok (.iload_n 1, 1) := by decide +kernel
theorem dX11_readRow_40 : decode cX11_readRow 40 = .ok (.ldc 183, 2) := by decide +kernel
theorem dX11_readRow_42 : decode cX11_readRow 42 = .ok (.invokestatic 175, 3) := by decide +kernel
theorem dX11_readRow_45 : decode cX11_readRow 45 = .ok (.if_icmp .ne 58, 3) := by decide +kernel
theorem dX11_readRow_48 : decode cX11_readRow 48 = .ok (.aload_n 0, 1) := by decide +kernel
theorem dX11_readRow_49 : decode cX11_readRow 49 = .ok (.iconst 0, 1) := by decide +kernel
theorem dX11_readRow_50 : decode cX11_readRow 50 = .ok (.bipush 60, 2) := by decide +kernel
theorem dX11_readRow_52 : decode cX11_readRow 52 = .ok (.invokevirtual 179, 3) := by decide +kernel
theorem dX11_readRow_55 : decode cX11_readRow 55 = .ok (.istore_n 2, 1) := by decide +kernel
theorem dX11_readRow_56 : decode cX11_readRow 56 = .ok (.aload_n 0, 1) := by decide +kernel
theorem dX11_readRow_57 : decode cX11_readRow 57 = .ok (.iconst 0, 1) := by decide +kernel
theorem dX11_readRow_58 : decode cX11_readRow 58 = .ok (.aload_n 0, 1) := by decide +kernel
theorem dX11_readRow_59 : decode cX11_readRow 59 = .ok (.getfield 146, 3) := by decide +kernel
theorem dX11_readRow_62 : decode cX11_readRow 62 = .ok (.iconst 1, 1) := by decide +kernel
theorem dX11_readRow_63 : decode cX11_readRow 63 = .ok (.isub, 1) := by decide +kernel
theorem dX11_readRow_64 : decode cX11_readRow 64 = .ok (.invokevirtual 179, 3) := by decide +kernel
theorem dX11_readRow_67 : decode cX11_readRow 67 = .ok (.istore_n 3, 1) := by decide +kernel
theorem dX11_readRow_68 : decode cX11_readRow 68 = .ok (.aload_n 0, 1) := by decide +kernel
theorem dX11_readRow_69 : decode cX11_readRow 69 = .ok (.iconst 0, 1) := by decide +kernel
theorem dX11_readRow_70 : decode cX11_readRow 70 = .ok (.bipush 40, 2) := by decide +kernel
theorem dX11_readRow_72 : decode cX11_readRow 72 = .ok (.invokevirtual 179, 3) := by decide +kernel
theorem dX11_readRow_75 : decode cX11_readRow 75 = .ok (.istore 4, 2) := by decide +kernel
theorem dX11_readRow_77 : decode cX11_readRow 77 = .ok (.aload_n 0, 1) := by decide +kernel
theorem dX11_readRow_78 : decode cX11_readRow 78 = .ok (.invokevirtual 132, 3) := by decide +kernel
theorem dX11_readRow_81 : decode cX11_readRow 81 = .ok (.ifCond .ne 4, 3) := by decide +kernel
theorem dX11_readRow_84 : decode cX11_readRow 84 = .ok (.return_, 1) := by decide +kernel
theorem dX11_readRow_85 : decode cX11_readRow 85 = .ok (.aload_n 0, 1) := by decide +kernel
theorem dX11_readRow_86 : decode cX11_readRow 86 = .ok (.getfield 26, 3) := by decide +kernel
theorem dX11_readRow_89 : decode cX11_readRow 89 = .ok (.iload_n 2, 1) := by decide +kernel
theorem dX11_readRow_90 : decode cX11_readRow 90 = .ok (.iload_n 3, 1) := by decide +kernel
theorem dX11_readRow_91 : decode cX11_readRow 91 = .ok (.iastore, 1) := by decide +kernel
theorem dX11_readRow_92 : decode cX11_readRow 92 = .ok (.aload_n 0, 1) := by decide +kernel
theorem dX11_readRow_93 : decode cX11_readRow 93 = .ok (.getfield 29, 3) := by decide +kernel
theorem dX11_readRow_96 : decode cX11_readRow 96 = .ok (.iload_n 2, 1) := by decide +kernel
theorem dX11_readRow_97 : decode cX11_readRow 97 = .ok (.iload 4, 2) := by decide +kernel
theorem dX11_readRow_99 : decode cX11_readRow 99 = .ok (.iastore, 1) := by decide +kernel
theorem dX11_readRow_100 : decode cX11_readRow 100 = .ok (.goto 14, 3) := by decide +kernel
theorem dX11_readRow_103 : decode cX11_readRow 103 = .ok (.aload_n 0, 1) := by decide +kernel
theorem dX11_readRow_104 : decode cX11_readRow 104 = .ok (.aload_n 0, 1) := by decide +kernel
theorem dX11_readRow_105 : decode cX11_readRow 105 = .ok (.iconst 0, 1) := by decide +kernel
theorem dX11_readRow_106 : decode cX11_readRow 106 = .ok (.bipush 20, 2) := by decide +kernel
theorem dX11_readRow_108 : decode cX11_readRow 108 = .ok (.invokevirtual 179, 3) := by decide +kernel
theorem dX11_readRow_111 : decode cX11_readRow 111 = .ok (.putfield 149, 3) := by decide +kernel
theorem dX11_readRow_114 : decode cX11_readRow 114 = .ok (.return_, 1) := by decide +kernel
theorem dX11_land_0 : decode cX11_land 0 = .ok (.aload_n 0, 1) := by decide +kernel
theorem dX11_land_1 : decode cX11_land 1 = .ok (.iconst 0, 1) := by decide +kernel
theorem dX11_land_2 : decode cX11_land 2 = .ok (.putfield 3, 3) := by decide +kernel
theorem dX11_land_5 : decode cX11_land 5 = .ok (.aload_n 0, 1) := by decide +kernel
theorem dX11_land_6 : decode cX11_land 6 = .ok (.iload_n 1, 1) := by decide +kernel
theorem dX11_land_7 : decode cX11_land 7 = .ok (.ifCond .lt 15, 3) := by decide +kernel
theorem dX11_land_10 : decode cX11_land 10 = .ok (.iload_n 1, 1) := by decide +kernel
theorem dX11_land_11 : decode cX11_land 11 = .ok (.aload_n 0, 1) := by decide +kernel
theorem dX11_land_12 : decode cX11_land 12 = .ok (.getfield 100, 3) := by decide +kernel
theorem dX11_land_15 : decode cX11_land 15 = .ok (.if_icmp .gt 7, 3) := by decide +kernel
theorem dX11_land_18 : decode cX11_land 18 = .ok (.iconst 1, 1) := by decide +kernel
theorem dX11_land_19 : decode cX11_land 19 = .ok (.goto 4, 3) := by decide +kernel
theorem dX11_land_22 : decode cX11_land 22 = .ok (.iconst 0, 1) := by decide +kernel
theorem dX11_land_23 : decode cX11_land 23 = .ok (.iconst 1, 1) := by decide +kernel
theorem dX11_land_24 : decode cX11_land 24 = .ok (.iconst 1, 1) := by decide +kernel
theorem dX11_land_25 : decode cX11_land 25 = .ok (.invokevirtual 185, 3) := by decide +kernel
theorem dX11_land_28 : decode cX11_land 28 = .ok (.ifCond .ne 5, 3) := by decide +kernel
theorem dX11_land_31 : decode cX11_land 31 = .ok (.iconst 0, 1) := by decide +kernel
theorem dX11_land_32 : decode cX11_land 32 = .ok (.ireturn, 1) := by decide +kernel
theorem dX11_land_33 : decode cX11_land 33 = .ok (.aload_n 0, 1) := by decide +kernel
theorem dX11_land_34 : decode cX11_land 34 = .ok (.iload_n 1, 1) := by decide +kernel
theorem dX11_land_35 : decode cX11_land 35 = .ok (.invokevirtual 189, 3) := by decide +kernel
theorem dX11_land_38 : decode cX11_land 38 = .ok (.aload_n 0, 1) := by decide +kernel
theorem dX11_land_39 : decode cX11_land 39 = .ok (.invokevirtual 94, 3) := by decide +kernel
theorem dX11_land_42 : decode cX11_land 42 = .ok (.iconst 0, 1) := by decide +kernel
theorem dX11_land_43 : decode cX11_land 43 = .ok (.istore_n 2, 1) := by decide +kernel
theorem dX11_land_44 : decode cX11_land 44 = .ok (.aload_n 0, 1) := by decide +kernel
theorem dX11_land_45 : decode cX11_land 45 = .ok (.invokevirtual 132, 3) := by decide +kernel
theorem dX11_land_48 : decode cX11_land 48 = .ok (.ifCond .eq 118, 3) := by decide +kernel
theorem dX11_land_51 : decode cX11_land 51 = .ok (.aload_n 0, 1) := by decide +kernel
theorem dX11_land_52 : decode cX11_land 52 = .ok (.invokevirtual 193, 3) := by decide +kernel
theorem dX11_land_55 : decode cX11_land 55 = .ok (.ifCond .eq 111, 3) := by decide +kernel
theorem dX11_land_58 : decode cX11_land 58 = .ok (.aload_n 0, 1) := by decide +kernel
theorem dX11_land_59 : decode cX11_land 59 = .ok (.invokevirtual 196, 3) := by decide +kernel
theorem dX11_land_62 : decode cX11_land 62 = .ok (.istore_n 3, 1) := by decide +kernel
theorem dX11_land_63 : decode cX11_land 63 = .ok (.iload_n 3, 1) := by decide +kernel
theorem dX11_land_64 : decode cX11_land 64 = .ok (.ldc 173, 2) := by decide +kernel
theorem dX11_land_66 : decode cX11_land 66 = .ok (.invokestatic 175, 3) := by decide +kernel
theorem dX11_land_69 : decode cX11_land 69 = .ok (.if_icmp .eq 33, 3) := by decide +kernel
theorem dX11_land_72 : decode cX11_land 72 = .ok (.iload_n 3, 1) := by decide +kernel
theorem dX11_land_73 : decode cX11_land 73 = .ok (.ldc 183, 2) := by decide +kernel
theorem dX11_land_75 : decode cX11_land 75 = .ok (.invokestatic 175, 3) := by decide +kernel
theorem dX11_land_78 : decode cX11_land 78 = .ok (.if_icmp .eq 24, 3) := by decide +kernel
theorem dX11_land_81 : decode cX11_land 81 = .ok (.iload_n 3, 1) := by decide +kernel
theorem dX11_land_82 : decode cX11_land 82 = .ok (.ldc 199, 2) := by decide +kernel
theorem dX11_land_84 : decode cX11_land 84 = .ok (.invokestatic 175, 3) := by decide +kernel
theorem dX11_land_87 : decode cX11_land 87 = .ok (.if_icmp .eq 15, 3) := by decide +kernel
theorem dX11_land_90 : decode cX11_land 90 = .ok (.aload_n 0, 1) := by decide +kernel
theorem dX11_land_91 : decode cX11_land 91 = .ok (.iconst 1, 1) := by decide +kernel
theorem dX11_land_92 : decode cX11_land 92 = .ok (.aload_n 0, 1) := by decide +kernel
theorem dX11_land_93 : decode cX11_land 93 = .ok (.getfield 109, 3) := by decide +kernel
theorem dX11_land_96 : decode cX11_land 96 = .ok (.invokevirtual 139, 3) := by decide +kernel
theorem dX11_land_99 : decode cX11_land 99 = .ok (.goto 36, 3) := by decide +kernel
theorem dX11_land_102 : decode cX11_land 102 = .ok (.iload_n 2, 1) := by decide +kernel
theorem dX11_land_103 : decode cX11_land 103 = .ok (.bipush 60, 2) := by decide +kernel
theorem dX11_land_105 : decode cX11_land 105 = .ok (.if_icmp .eq 21, 3) := by decide +kernel
theorem dX11_land_108 : decode cX11_land 108 = .ok (.iload_n 3, 1) := by decide +kernel
theorem dX11_land_109 : decode cX11_land 109 = .ok (.ldc 173, 2) := by decide +kernel
theorem dX11_land_111 : decode cX11_land 111 = .ok (.invokestatic 175, 3) := by decide +kernel
theorem dX11_land_114 : decode cX11_land 114 = .ok (.if_icmp .ne 21, 3) := by decide +kernel
theorem dX11_land_117 : decode cX11_land 117 = .ok (.aload_n 0, 1) := by decide +kernel
theorem dX11_land_118 : decode cX11_land 118 = .ok (.getfield 146, 3) := by decide +kernel
theorem dX11_land_121 : decode cX11_land 121 = .ok (.bipush 6, 2) := by decide +kernel
theorem dX11_land_123 : decode cX11_land 123 = .ok (.if_icmp .ne 12, 3) := by decide +kernel
theorem dX11_land_126 : decode cX11_land 126 = .ok (.aload_n 0, 1) := by decide +kernel
theorem dX11_land_127 : decode cX11_land 127 = .ok (.iconst 3, 1) := by decide +kernel
theorem dX11_land_128 : decode cX11_land 128 = .ok (.aload_n 0, 1) := by decide +kernel
theorem dX11_land_129 : decode cX11_land 129 = .ok (.getfield 109, 3) := by decide +kernel
theorem dX11_land_132 : decode cX11_land 132 = .ok (.invokevirtual 139, 3) := by decide +kernel
theorem dX11_land_135 : decode cX11_land 135 = .ok (.aload_n 0, 1) := by decide +kernel
theorem dX11_land_136 : decode cX11_land 136 = .ok (.invokevirtual 132, 3) := by decide +kernel
theorem dX11_land_139 : decode cX11_land 139 = .ok (.ifCond .ne 6, 3) := by decide +kernel
theorem dX11_land_142 : decode cX11_land 142 = .ok (.goto 24, 3) := by decide +kernel
theorem dX11_land_145 : decode cX11_land 145 = .ok (.aload_n 0, 1) := by decide +kernel
theorem dX11_land_146 : decode cX11_land 146 = .ok (.invokevirtual 200, 3) := by decide +kernel
theorem dX11_land_149 : decode cX11_land 149 = .ok (.aload_n 0, 1) := by decide +kernel
theorem dX11_land_150 : decode cX11_land 150 = .ok (.iload_n 3, 1) := by decide +kernel
theorem dX11_land_151 : decode cX11_land 151 = .ok (.invokevirtual 203, 3) := by decide +kernel
theorem dX11_land_154 : decode cX11_land 154 = .ok (.aload_n 0, 1) := by decide +kernel
theorem dX11_land_155 : decode cX11_land 155 = .ok (.bipush 59, 2) := by decide +kernel
theorem dX11_land_157 : decode cX11_land 157 = .ok (.invokevirtual 206, 3) := by decide +kernel
theorem dX11_land_160 : decode cX11_land 160 = .ok (.iinc 2 1, 3) := by decide +kernel
theorem dX11_land_163 : decode cX11_land 163 = .ok (.goto (-119), 3) := by decide +kernel
theorem dX11_land_166 : decode cX11_land 166 = .ok (.aload_n 0, 1) := by decide +kernel
theorem dX11_land_167 : decode cX11_land 167 = .ok (.aload_n 0, 1) := by decide +kernel
theorem dX11_land_168 : decode cX11_land 168 = .ok (.getfield 146, 3) := by decide +kernel
theorem dX11_land_171 : decode cX11_land 171 = .ok (.invokevirtual 209, 3) := by decide +kernel
theorem dX11_land_174 : decode cX11_land 174 = .ok (.istore_n 3, 1) := by decide +kernel
theorem dX11_land_175 : decode cX11_land 175 = .ok (.aload_n 0, 1) := by decide +kernel
theorem dX11_land_176 : decode cX11_land 176 = .ok (.getfield 103, 3) := by decide +kernel
theorem dX11_land_179 : decode cX11_land 179 = .ok (.iconst (-1), 1) := by decide +kernel
theorem dX11_land_180 : decode cX11_land 180 = .ok (.if_icmp .ne 7, 3) := by decide +kernel
theorem dX11_land_183 : decode cX11_land 183 = .ok (.aload_n 0, 1) := by decide +kernel
theorem dX11_land_184 : decode cX11_land 184 = .ok (.invokevirtual 97, 3) := by decide +kernel
theorem dX11_land_187 : decode cX11_land 187 = .ok (.iload_n 3, 1) := by decide +kernel
theorem dX11_land_188 : decode cX11_land 188 = .ok (.ireturn, 1) := by decide +kernel
theorem dX11_emit_0 : decode cX11_emit 0 = .ok (.aload_n 0, 1) := by decide +kernel
theorem dX11_emit_1 : decode cX11_emit 1 = .ok (.invokevirtual 132, 3) := by decide +kernel
theorem dX11_emit_4 : decode cX11_emit 4 = .ok (.ifCond .ne 4, 3) := by decide +kernel
theorem dX11_emit_7 : decode cX11_emit 7 = .ok (.return_, 1) := by decide +kernel
theorem dX11_emit_8 : decode cX11_emit 8 = .ok (.aload_n 0, 1) := by decide +kernel
theorem dX11_emit_9 : decode cX11_emit 9 = .ok (.getfield 32, 3) := by decide +kernel
theorem dX11_emit_12 : decode cX11_emit 12 = .ok (.aload_n 0, 1) := by decide +kernel
theorem dX11_emit_13 : decode cX11_emit 13 = .ok (.getfield 213, 3) := by decide +kernel
theorem dX11_emit_16 : decode cX11_emit 16 = .ok (.iload_n 1, 1) := by decide +kernel
theorem dX11_emit_17 : decode cX11_emit 17 = .ok (.iastore, 1) := by decide +kernel
theorem dX11_emit_18 : decode cX11_emit 18 = .ok (.aload_n 0, 1) := by decide +kernel
theorem dX11_emit_19 : decode cX11_emit 19 = .ok (.getfield 35, 3) := by decide +kernel
theorem dX11_emit_22 : decode cX11_emit 22 = .ok (.aload_n 0, 1) := by decide +kernel
theorem dX11_emit_23 : decode cX11_emit 23 = .ok (.getfield 213, 3) := by decide +kernel
theorem dX11_emit_26 : decode cX11_emit 26 = .ok (.iload_n 2, 1) := by decide +kernel
theorem dX11_emit_27 : decode cX11_emit 27 = .ok (.iastore, 1) := by decide +kernel
theorem dX11_emit_28 : decode cX11_emit 28 = .ok (.aload_n 0, 1) := by decide +kernel
theorem dX11_emit_29 : decode cX11_emit 29 = .ok (.dup, 1) := by decide +kernel
theorem dX11_emit_30 : decode cX11_emit 30 = .ok (.getfield 213, 3) := by decide +kernel
theorem dX11_emit_33 : decode cX11_emit 33 = .ok (.iconst 1, 1) := by decide +kernel
theorem dX11_emit_34 : decode cX11_emit 34 = .ok (.iadd, 1) := by decide +kernel
theorem dX11_emit_35 : decode cX11_emit 35 = .ok (.putfield 213, 3) := by decide +kernel
theorem dX11_emit_38 : decode cX11_emit 38 = .ok (.return_, 1) := by decide +kernel
theorem dX11_opensOne_0 : decode cX11_opensOne 0 = .ok (.aload_n 0, 1) := by decide +kernel
theorem dX11_opensOne_1 : decode cX11_opensOne 1 = .ok (.invokevirtual 132, 3) := by decide +kernel
theorem dX11_opensOne_4 : decode cX11_opensOne 4 = .ok (.ifCond .eq 21, 3) := by decide +kernel
theorem dX11_opensOne_7 : decode cX11_opensOne 7 = .ok (.aload_n 0, 1) := by decide +kernel
theorem dX11_opensOne_8 : decode cX11_opensOne 8 = .ok (.getfield 143, 3) := by decide +kernel
theorem dX11_opensOne_11 : decode cX11_opensOne 11 = .ok (.bipush 6, 2) := by decide +kernel
theorem dX11_opensOne_13 : decode cX11_opensOne 13 = .ok (.if_icmp .ne 12, 3) := by decide +kernel
theorem dX11_opensOne_16 : decode cX11_opensOne 16 = .ok (.aload_n 0, 1) := by decide +kernel
theorem dX11_opensOne_17 : decode cX11_opensOne 17 = .ok (.iconst 3, 1) := by decide +kernel
theorem dX11_opensOne_18 : decode cX11_opensOne 18 = .ok (.aload_n 0, 1) := by decide +kernel
theorem dX11_opensOne_19 : decode cX11_opensOne 19 = .ok (.getfield 109, 3) := by decide +kernel
theorem dX11_opensOne_22 : decode cX11_opensOne 22 = .ok (.invokevirtual 139, 3) := by decide +kernel
theorem dX11_opensOne_25 : decode cX11_opensOne 25 = .ok (.aload_n 0, 1) := by decide +kernel
theorem dX11_opensOne_26 : decode cX11_opensOne 26 = .ok (.invokevirtual 132, 3) := by decide +kernel
theorem dX11_opensOne_29 : decode cX11_opensOne 29 = .ok (.ifCond .eq 13, 3) := by decide +kernel
theorem dX11_opensOne_32 : decode cX11_opensOne 32 = .ok (.aload_n 0, 1) := by decide +kernel
theorem dX11_opensOne_33 : decode cX11_opensOne 33 = .ok (.dup, 1) := by decide +kernel
theorem dX11_opensOne_34 : decode cX11_opensOne 34 = .ok (.getfield 109, 3) := by decide +kernel
theorem dX11_opensOne_37 : decode cX11_opensOne 37 = .ok (.iload_n 1, 1) := by decide +kernel
theorem dX11_opensOne_38 : decode cX11_opensOne 38 = .ok (.iadd, 1) := by decide +kernel
theorem dX11_opensOne_39 : decode cX11_opensOne 39 = .ok (.putfield 109, 3) := by decide +kernel
theorem dX11_opensOne_42 : decode cX11_opensOne 42 = .ok (.aload_n 0, 1) := by decide +kernel
theorem dX11_opensOne_43 : decode cX11_opensOne 43 = .ok (.dup, 1) := by decide +kernel
theorem dX11_opensOne_44 : decode cX11_opensOne 44 = .ok (.getfield 143, 3) := by decide +kernel
theorem dX11_opensOne_47 : decode cX11_opensOne 47 = .ok (.iconst 1, 1) := by decide +kernel
theorem dX11_opensOne_48 : decode cX11_opensOne 48 = .ok (.iadd, 1) := by decide +kernel
theorem dX11_opensOne_49 : decode cX11_opensOne 49 = .ok (.putfield 143, 3) := by decide +kernel
theorem dX11_opensOne_52 : decode cX11_opensOne 52 = .ok (.return_, 1) := by decide +kernel
theorem dX11_readSum_0 : decode cX11_readSum 0 = .ok (.aload_n 0, 1) := by decide +kernel
theorem dX11_readSum_1 : decode cX11_readSum 1 = .ok (.invokevirtual 216, 3) := by decide +kernel
theorem dX11_readSum_4 : decode cX11_readSum 4 = .ok (.aload_n 0, 1) := by decide +kernel
theorem dX11_readSum_5 : decode cX11_readSum 5 = .ok (.invokevirtual 132, 3) := by decide +kernel
theorem dX11_readSum_8 : decode cX11_readSum 8 = .ok (.ifCond .eq 59, 3) := by decide +kernel
theorem dX11_readSum_11 : decode cX11_readSum 11 = .ok (.aload_n 0, 1) := by decide +kernel
theorem dX11_readSum_12 : decode cX11_readSum 12 = .ok (.invokevirtual 115, 3) := by decide +kernel
theorem dX11_readSum_15 : decode cX11_readSum 15 = .ok (.bipush 43, 2) := by decide +kernel
theorem dX11_readSum_17 : decode cX11_readSum 17 = .ok (.if_icmp .eq 12, 3) := by decide +kernel
theorem dX11_readSum_20 : decode cX11_readSum 20 = .ok (.aload_n 0, 1) := by decide +kernel
theorem dX11_readSum_21 : decode cX11_readSum 21 = .ok (.invokevirtual 115, 3) := by decide +kernel
theorem dX11_readSum_24 : decode cX11_readSum 24 = .ok (.bipush 45, 2) := by decide +kernel
theorem dX11_readSum_26 : decode cX11_readSum 26 = .ok (.if_icmp .ne 41, 3) := by decide +kernel
theorem dX11_readSum_29 : decode cX11_readSum 29 = .ok (.aload_n 0, 1) := by decide +kernel
theorem dX11_readSum_30 : decode cX11_readSum 30 = .ok (.invokevirtual 115, 3) := by decide +kernel
theorem dX11_readSum_33 : decode cX11_readSum 33 = .ok (.bipush 43, 2) := by decide +kernel
theorem dX11_readSum_35 : decode cX11_readSum 35 = .ok (.if_icmp .ne 7, 3) := by decide +kernel
theorem dX11_readSum_38 : decode cX11_readSum 38 = .ok (.iconst 2, 1) := by decide +kernel
theorem dX11_readSum_39 : decode cX11_readSum 39 = .ok (.goto 4, 3) := by decide +kernel
theorem dX11_readSum_42 : decode cX11_readSum 42 = .ok (.iconst 3, 1) := by decide +kernel
theorem dX11_readSum_43 : decode cX11_readSum 43 = .ok (.istore_n 1, 1) := by decide +kernel
theorem dX11_readSum_44 : decode cX11_readSum 44 = .ok (.aload_n 0, 1) := by decide +kernel
theorem dX11_readSum_45 : decode cX11_readSum 45 = .ok (.dup, 1) := by decide +kernel
theorem dX11_readSum_46 : decode cX11_readSum 46 = .ok (.getfield 109, 3) := by decide +kernel
theorem dX11_readSum_49 : decode cX11_readSum 49 = .ok (.iconst 1, 1) := by decide +kernel
theorem dX11_readSum_50 : decode cX11_readSum 50 = .ok (.iadd, 1) := by decide +kernel
theorem dX11_readSum_51 : decode cX11_readSum 51 = .ok (.putfield 109, 3) := by decide +kernel
theorem dX11_readSum_54 : decode cX11_readSum 54 = .ok (.aload_n 0, 1) := by decide +kernel
theorem dX11_readSum_55 : decode cX11_readSum 55 = .ok (.invokevirtual 216, 3) := by decide +kernel
theorem dX11_readSum_58 : decode cX11_readSum 58 = .ok (.aload_n 0, 1) := by decide +kernel
theorem dX11_readSum_59 : decode cX11_readSum 59 = .ok (.iload_n 1, 1) := by decide +kernel
theorem dX11_readSum_60 : decode cX11_readSum 60 = .ok (.iconst 0, 1) := by decide +kernel
theorem dX11_readSum_61 : decode cX11_readSum 61 = .ok (.invokevirtual 219, 3) := by decide +kernel
theorem dX11_readSum_64 : decode cX11_readSum 64 = .ok (.goto (-60), 3) := by decide +kernel
theorem dX11_readSum_67 : decode cX11_readSum 67 = .ok (.return_, 1) := by decide +kernel
theorem dX11_readProduct_0 : decode cX11_readProduct 0 = .ok (.aload_n 0, 1) := by decide +kernel
theorem dX11_readProduct_1 : decode cX11_readProduct 1 = .ok (.invokevirtual 222, 3) := by decide +kernel
theorem dX11_readProduct_4 : decode cX11_readProduct 4 = .ok (.aload_n 0, 1) := by decide +kernel
theorem dX11_readProduct_5 : decode cX11_readProduct 5 = .ok (.invokevirtual 132, 3) := by decide +kernel
theorem dX11_readProduct_8 : decode cX11_readProduct 8 = .ok (.ifCond .eq 82, 3) := by decide +kernel
theorem dX11_readProduct_11 : decode cX11_readProduct 11 = .ok (.aload_n 0, 1) := by decide +kernel
theorem dX11_readProduct_12 : decode cX11_readProduct 12 = .ok (.invokevirtual 115, 3) := by decide +kernel
theorem dX11_readProduct_15 : decode cX11_readProduct 15 = .ok (.bipush 42, 2) := by decide +kernel
theorem dX11_readProduct_17 : decode cX11_readProduct 17 = .ok (.if_icmp .eq 21, 3) := by decide +kernel
theorem dX11_readProduct_20 : decode cX11_readProduct 20 = .ok (.aload_n 0, 1) := by decide +kernel
theorem dX11_readProduct_21 : decode cX11_readProduct 21 = .ok (.invokevirtual 115, 3) := by decide +kernel
theorem dX11_readProduct_24 : decode cX11_readProduct 24 = .ok (.bipush 47, 2) := by decide +kernel
theorem dX11_readProduct_26 : decode cX11_readProduct 26 = .ok (.if_icmp .eq 12, 3) := by decide +kernel
theorem dX11_readProduct_29 : decode cX11_readProduct 29 = .ok (.aload_n 0, 1) := by decide +kernel
theorem dX11_readProduct_30 : decode cX11_readProduct 30 = .ok (.invokevirtual 115, 3) := by decide +kernel
theorem dX11_readProduct_33 : decode cX11_readProduct 33 = .ok (.bipush 37, 2) := by decide +kernel
theorem dX11_readProduct_35 : decode cX11_readProduct 35 = .ok (.if_icmp .ne 55, 3) := by decide +kernel
theorem dX11_readProduct_38 : decode cX11_readProduct 38 = .ok (.aload_n 0, 1) := by decide +kernel
theorem dX11_readProduct_39 : decode cX11_readProduct 39 = .ok (.invokevirtual 115, 3) := by decide +kernel
theorem dX11_readProduct_42 : decode cX11_readProduct 42 = .ok (.bipush 42, 2) := by decide +kernel
theorem dX11_readProduct_44 : decode cX11_readProduct 44 = .ok (.if_icmp .ne 7, 3) := by decide +kernel
theorem dX11_readProduct_47 : decode cX11_readProduct 47 = .ok (.iconst 4, 1) := by decide +kernel
theorem dX11_readProduct_48 : decode cX11_readProduct 48 = .ok (.goto 18, 3) := by decide +kernel
theorem dX11_readProduct_51 : decode cX11_readProduct 51 = .ok (.aload_n 0, 1) := by decide +kernel
theorem dX11_readProduct_52 : decode cX11_readProduct 52 = .ok (.invokevirtual 115, 3) := by decide +kernel
theorem dX11_readProduct_55 : decode cX11_readProduct 55 = .ok (.bipush 47, 2) := by decide +kernel
theorem dX11_readProduct_57 : decode cX11_readProduct 57 = .ok (.if_icmp .ne 7, 3) := by decide +kernel
theorem dX11_readProduct_60 : decode cX11_readProduct 60 = .ok (.iconst 5, 1) := by decide +kernel
theorem dX11_readProduct_61 : decode cX11_readProduct 61 = .ok (.goto 5, 3) := by decide +kernel
theorem dX11_readProduct_64 : decode cX11_readProduct 64 = .ok (.bipush 8, 2) := by decide +kernel
theorem dX11_readProduct_66 : decode cX11_readProduct 66 = .ok (.istore_n 1, 1) := by decide +kernel
theorem dX11_readProduct_67 : decode cX11_readProduct 67 = .ok (.aload_n 0, 1) := by decide +kernel
theorem dX11_readProduct_68 : decode cX11_readProduct 68 = .ok (.dup, 1) := by decide +kernel
theorem dX11_readProduct_69 : decode cX11_readProduct 69 = .ok (.getfield 109, 3) := by decide +kernel
theorem dX11_readProduct_72 : decode cX11_readProduct 72 = .ok (.iconst 1, 1) := by decide +kernel
theorem dX11_readProduct_73 : decode cX11_readProduct 73 = .ok (.iadd, 1) := by decide +kernel
theorem dX11_readProduct_74 : decode cX11_readProduct 74 = .ok (.putfield 109, 3) := by decide +kernel
theorem dX11_readProduct_77 : decode cX11_readProduct 77 = .ok (.aload_n 0, 1) := by decide +kernel
theorem dX11_readProduct_78 : decode cX11_readProduct 78 = .ok (.invokevirtual 222, 3) := by decide +kernel
theorem dX11_readProduct_81 : decode cX11_readProduct 81 = .ok (.aload_n 0, 1) := by decide +kernel
theorem dX11_readProduct_82 : decode cX11_readProduct 82 = .ok (.iload_n 1, 1) := by decide +kernel
theorem dX11_readProduct_83 : decode cX11_readProduct 83 = .ok (.iconst 0, 1) := by decide +kernel
theorem dX11_readProduct_84 : decode cX11_readProduct 84 = .ok (.invokevirtual 219, 3) := by decide +kernel
theorem dX11_readProduct_87 : decode cX11_readProduct 87 = .ok (.goto (-83), 3) := by decide +kernel
theorem dX11_readProduct_90 : decode cX11_readProduct 90 = .ok (.return_, 1) := by decide +kernel
theorem dX11_readTwo_0 : decode cX11_readTwo 0 = .ok (.aload_n 0, 1) := by decide +kernel
theorem dX11_readTwo_1 : decode cX11_readTwo 1 = .ok (.iload_n 1, 1) := by decide +kernel
theorem dX11_readTwo_2 : decode cX11_readTwo 2 = .ok (.invokevirtual 225, 3) := by decide +kernel
theorem dX11_readTwo_5 : decode cX11_readTwo 5 = .ok (.aload_n 0, 1) := by decide +kernel
theorem dX11_readTwo_6 : decode cX11_readTwo 6 = .ok (.bipush 91, 2) := by decide +kernel
theorem dX11_readTwo_8 : decode cX11_readTwo 8 = .ok (.invokevirtual 206, 3) := by decide +kernel
theorem dX11_readTwo_11 : decode cX11_readTwo 11 = .ok (.aload_n 0, 1) := by decide +kernel
theorem dX11_readTwo_12 : decode cX11_readTwo 12 = .ok (.invokevirtual 228, 3) := by decide +kernel
theorem dX11_readTwo_15 : decode cX11_readTwo 15 = .ok (.aload_n 0, 1) := by decide +kernel
theorem dX11_readTwo_16 : decode cX11_readTwo 16 = .ok (.bipush 44, 2) := by decide +kernel
theorem dX11_readTwo_18 : decode cX11_readTwo 18 = .ok (.invokevirtual 206, 3) := by decide +kernel
theorem dX11_readTwo_21 : decode cX11_readTwo 21 = .ok (.aload_n 0, 1) := by decide +kernel
theorem dX11_readTwo_22 : decode cX11_readTwo 22 = .ok (.invokevirtual 228, 3) := by decide +kernel
theorem dX11_readTwo_25 : decode cX11_readTwo 25 = .ok (.aload_n 0, 1) := by decide +kernel
theorem dX11_readTwo_26 : decode cX11_readTwo 26 = .ok (.bipush 93, 2) := by decide +kernel
theorem dX11_readTwo_28 : decode cX11_readTwo 28 = .ok (.invokevirtual 206, 3) := by decide +kernel
theorem dX11_readTwo_31 : decode cX11_readTwo 31 = .ok (.aload_n 0, 1) := by decide +kernel
theorem dX11_readTwo_32 : decode cX11_readTwo 32 = .ok (.dup, 1) := by decide +kernel
theorem dX11_readTwo_33 : decode cX11_readTwo 33 = .ok (.getfield 143, 3) := by decide +kernel
theorem dX11_readTwo_36 : decode cX11_readTwo 36 = .ok (.iconst 1, 1) := by decide +kernel
theorem dX11_readTwo_37 : decode cX11_readTwo 37 = .ok (.isub, 1) := by decide +kernel
theorem dX11_readTwo_38 : decode cX11_readTwo 38 = .ok (.putfield 143, 3) := by decide +kernel
theorem dX11_readTwo_41 : decode cX11_readTwo 41 = .ok (.aload_n 0, 1) := by decide +kernel
theorem dX11_readTwo_42 : decode cX11_readTwo 42 = .ok (.iload_n 2, 1) := by decide +kernel
theorem dX11_readTwo_43 : decode cX11_readTwo 43 = .ok (.iconst 0, 1) := by decide +kernel
theorem dX11_readTwo_44 : decode cX11_readTwo 44 = .ok (.invokevirtual 219, 3) := by decide +kernel
theorem dX11_readTwo_47 : decode cX11_readTwo 47 = .ok (.return_, 1) := by decide +kernel
theorem dX11_factHere_0 : decode cX11_factHere 0 = .ok (.aload_n 0, 1) := by decide +kernel
theorem dX11_factHere_1 : decode cX11_factHere 1 = .ok (.invokevirtual 196, 3) := by decide +kernel
theorem dX11_factHere_4 : decode cX11_factHere 4 = .ok (.istore_n 1, 1) := by decide +kernel
theorem dX11_factHere_5 : decode cX11_factHere 5 = .ok (.iload_n 1, 1) := by decide +kernel
theorem dX11_factHere_6 : decode cX11_factHere 6 = .ok (.ldc 231, 2) := by decide +kernel
theorem dX11_factHere_8 : decode cX11_factHere 8 = .ok (.invokestatic 175, 3) := by decide +kernel
theorem dX11_factHere_11 : decode cX11_factHere 11 = .ok (.if_icmp .ne 7, 3) := by decide +kernel
theorem dX11_factHere_14 : decode cX11_factHere 14 = .ok (.iconst 0, 1) := by decide +kernel
theorem dX11_factHere_15 : decode cX11_factHere 15 = .ok (.goto 83, 3) := by decide +kernel
theorem dX11_factHere_18 : decode cX11_factHere 18 = .ok (.iload_n 1, 1) := by decide +kernel
theorem dX11_factHere_19 : decode cX11_factHere 19 = .ok (.ldc 233, 2) := by decide +kernel
theorem dX11_factHere_21 : decode cX11_factHere 21 = .ok (.invokestatic 175, 3) := by decide +kernel
theorem dX11_factHere_24 : decode cX11_factHere 24 = .ok (.if_icmp .ne 7, 3) := by decide +kernel
theorem dX11_factHere_27 : decode cX11_factHere 27 = .ok (.iconst 1, 1) := by decide +kernel
theorem dX11_factHere_28 : decode cX11_factHere 28 = .ok (.goto 70, 3) := by decide +kernel
theorem dX11_factHere_31 : decode cX11_factHere 31 = .ok (.iload_n 1, 1) := by decide +kernel
theorem dX11_factHere_32 : decode cX11_factHere 32 = .ok (.ldc 235, 2) := by decide +kernel
theorem dX11_factHere_34 : decode cX11_factHere 34 = .ok (.invokestatic 175, 3) := by decide +kernel
theorem dX11_factHere_37 : decode cX11_factHere 37 = .ok (.if_icmp .ne 7, 3) := by decide +kernel
theorem dX11_factHere_40 : decode cX11_factHere 40 = .ok (.iconst 2, 1) := by decide +kernel
theorem dX11_factHere_41 : decode cX11_factHere 41 = .ok (.goto 57, 3) := by decide +kernel
theorem dX11_factHere_44 : decode cX11_factHere 44 = .ok (.iload_n 1, 1) := by decide +kernel
theorem dX11_factHere_45 : decode cX11_factHere 45 = .ok (.ldc 237, 2) := by decide +kernel
theorem dX11_factHere_47 : decode cX11_factHere 47 = .ok (.invokestatic 175, 3) := by decide +kernel
theorem dX11_factHere_50 : decode cX11_factHere 50 = .ok (.if_icmp .ne 7, 3) := by decide +kernel
theorem dX11_factHere_53 : decode cX11_factHere 53 = .ok (.iconst 3, 1) := by decide +kernel
theorem dX11_factHere_54 : decode cX11_factHere 54 = .ok (.goto 44, 3) := by decide +kernel
theorem dX11_factHere_57 : decode cX11_factHere 57 = .ok (.iload_n 1, 1) := by decide +kernel
theorem dX11_factHere_58 : decode cX11_factHere 58 = .ok (.ldc 239, 2) := by decide +kernel
theorem dX11_factHere_60 : decode cX11_factHere 60 = .ok (.invokestatic 175, 3) := by decide +kernel
theorem dX11_factHere_63 : decode cX11_factHere 63 = .ok (.if_icmp .ne 7, 3) := by decide +kernel
theorem dX11_factHere_66 : decode cX11_factHere 66 = .ok (.iconst 4, 1) := by decide +kernel
theorem dX11_factHere_67 : decode cX11_factHere 67 = .ok (.goto 31, 3) := by decide +kernel
theorem dX11_factHere_70 : decode cX11_factHere 70 = .ok (.iload_n 1, 1) := by decide +kernel
theorem dX11_factHere_71 : decode cX11_factHere 71 = .ok (.ldc 241, 2) := by decide +kernel
theorem dX11_factHere_73 : decode cX11_factHere 73 = .ok (.invokestatic 175, 3) := by decide +kernel
theorem dX11_factHere_76 : decode cX11_factHere 76 = .ok (.if_icmp .ne 7, 3) := by decide +kernel
theorem dX11_factHere_79 : decode cX11_factHere 79 = .ok (.iconst 5, 1) := by decide +kernel
theorem dX11_factHere_80 : decode cX11_factHere 80 = .ok (.goto 18, 3) := by decide +kernel
theorem dX11_factHere_83 : decode cX11_factHere 83 = .ok (.iload_n 1, 1) := by decide +kernel
theorem dX11_factHere_84 : decode cX11_factHere 84 = .ok (.ldc 243, 2) := by decide +kernel
theorem dX11_factHere_86 : decode cX11_factHere 86 = .ok (.invokestatic 175, 3) := by decide +kernel
theorem dX11_factHere_89 : decode cX11_factHere 89 = .ok (.if_icmp .ne 8, 3) := by decide +kernel
theorem dX11_factHere_92 : decode cX11_factHere 92 = .ok (.bipush 6, 2) := by decide +kernel
theorem dX11_factHere_94 : decode cX11_factHere 94 = .ok (.goto 4, 3) := by decide +kernel
theorem dX11_factHere_97 : decode cX11_factHere 97 = .ok (.iconst (-1), 1) := by decide +kernel
theorem dX11_factHere_98 : decode cX11_factHere 98 = .ok (.ireturn, 1) := by decide +kernel
theorem dX11_readUnit_0 : decode cX11_readUnit 0 = .ok (.aload_n 0, 1) := by decide +kernel
theorem dX11_readUnit_1 : decode cX11_readUnit 1 = .ok (.invokevirtual 132, 3) := by decide +kernel
theorem dX11_readUnit_4 : decode cX11_readUnit 4 = .ok (.ifCond .ne 4, 3) := by decide +kernel
theorem dX11_readUnit_7 : decode cX11_readUnit 7 = .ok (.return_, 1) := by decide +kernel
theorem dX11_readUnit_8 : decode cX11_readUnit 8 = .ok (.aload_n 0, 1) := by decide +kernel
theorem dX11_readUnit_9 : decode cX11_readUnit 9 = .ok (.invokevirtual 115, 3) := by decide +kernel
theorem dX11_readUnit_12 : decode cX11_readUnit 12 = .ok (.bipush 40, 2) := by decide +kernel
theorem dX11_readUnit_14 : decode cX11_readUnit 14 = .ok (.if_icmp .ne 31, 3) := by decide +kernel
theorem dX11_readUnit_17 : decode cX11_readUnit 17 = .ok (.aload_n 0, 1) := by decide +kernel
theorem dX11_readUnit_18 : decode cX11_readUnit 18 = .ok (.iconst 1, 1) := by decide +kernel
theorem dX11_readUnit_19 : decode cX11_readUnit 19 = .ok (.invokevirtual 225, 3) := by decide +kernel
theorem dX11_readUnit_22 : decode cX11_readUnit 22 = .ok (.aload_n 0, 1) := by decide +kernel
theorem dX11_readUnit_23 : decode cX11_readUnit 23 = .ok (.invokevirtual 228, 3) := by decide +kernel
theorem dX11_readUnit_26 : decode cX11_readUnit 26 = .ok (.aload_n 0, 1) := by decide +kernel
theorem dX11_readUnit_27 : decode cX11_readUnit 27 = .ok (.bipush 41, 2) := by decide +kernel
theorem dX11_readUnit_29 : decode cX11_readUnit 29 = .ok (.invokevirtual 206, 3) := by decide +kernel
theorem dX11_readUnit_32 : decode cX11_readUnit 32 = .ok (.aload_n 0, 1) := by decide +kernel
theorem dX11_readUnit_33 : decode cX11_readUnit 33 = .ok (.dup, 1) := by decide +kernel
theorem dX11_readUnit_34 : decode cX11_readUnit 34 = .ok (.getfield 143, 3) := by decide +kernel
theorem dX11_readUnit_37 : decode cX11_readUnit 37 = .ok (.iconst 1, 1) := by decide +kernel
theorem dX11_readUnit_38 : decode cX11_readUnit 38 = .ok (.isub, 1) := by decide +kernel
theorem dX11_readUnit_39 : decode cX11_readUnit 39 = .ok (.putfield 143, 3) := by decide +kernel
theorem dX11_readUnit_42 : decode cX11_readUnit 42 = .ok (.goto 110, 3) := by decide +kernel
theorem dX11_readUnit_45 : decode cX11_readUnit 45 = .ok (.aload_n 0, 1) := by decide +kernel
theorem dX11_readUnit_46 : decode cX11_readUnit 46 = .ok (.invokevirtual 115, 3) := by decide +kernel
theorem dX11_readUnit_49 : decode cX11_readUnit 49 = .ok (.invokestatic 136, 3) := by decide +kernel
theorem dX11_readUnit_52 : decode cX11_readUnit 52 = .ok (.ifCond .eq 19, 3) := by decide +kernel
theorem dX11_readUnit_55 : decode cX11_readUnit 55 = .ok (.aload_n 0, 1) := by decide +kernel
theorem dX11_readUnit_56 : decode cX11_readUnit 56 = .ok (.iconst 0, 1) := by decide +kernel
theorem dX11_readUnit_57 : decode cX11_readUnit 57 = .ok (.aload_n 0, 1) := by decide +kernel
theorem dX11_readUnit_58 : decode cX11_readUnit 58 = .ok (.iconst 0, 1) := by decide +kernel
theorem dX11_readUnit_59 : decode cX11_readUnit 59 = .ok (.sipush 999, 3) := by decide +kernel
theorem dX11_readUnit_62 : decode cX11_readUnit 62 = .ok (.invokevirtual 179, 3) := by decide +kernel
theorem dX11_readUnit_65 : decode cX11_readUnit 65 = .ok (.invokevirtual 219, 3) := by decide +kernel
theorem dX11_readUnit_68 : decode cX11_readUnit 68 = .ok (.goto 84, 3) := by decide +kernel
theorem dX11_readUnit_71 : decode cX11_readUnit 71 = .ok (.aload_n 0, 1) := by decide +kernel
theorem dX11_readUnit_72 : decode cX11_readUnit 72 = .ok (.invokevirtual 196, 3) := by decide +kernel
theorem dX11_readUnit_75 : decode cX11_readUnit 75 = .ok (.ldc 245, 2) := by decide +kernel
theorem dX11_readUnit_77 : decode cX11_readUnit 77 = .ok (.invokestatic 175, 3) := by decide +kernel
theorem dX11_readUnit_80 : decode cX11_readUnit 80 = .ok (.if_icmp .ne 13, 3) := by decide +kernel
theorem dX11_readUnit_83 : decode cX11_readUnit 83 = .ok (.aload_n 0, 1) := by decide +kernel
theorem dX11_readUnit_84 : decode cX11_readUnit 84 = .ok (.iconst 5, 1) := by decide +kernel
theorem dX11_readUnit_85 : decode cX11_readUnit 85 = .ok (.bipush 6, 2) := by decide +kernel
theorem dX11_readUnit_87 : decode cX11_readUnit 87 = .ok (.invokevirtual 247, 3) := by decide +kernel
theorem dX11_readUnit_90 : decode cX11_readUnit 90 = .ok (.goto 62, 3) := by decide +kernel
theorem dX11_readUnit_93 : decode cX11_readUnit 93 = .ok (.aload_n 0, 1) := by decide +kernel
theorem dX11_readUnit_94 : decode cX11_readUnit 94 = .ok (.invokevirtual 196, 3) := by decide +kernel
theorem dX11_readUnit_97 : decode cX11_readUnit 97 = .ok (.ldc 250, 2) := by decide +kernel
theorem dX11_readUnit_99 : decode cX11_readUnit 99 = .ok (.invokestatic 175, 3) := by decide +kernel
theorem dX11_readUnit_102 : decode cX11_readUnit 102 = .ok (.if_icmp .ne 13, 3) := by decide +kernel
theorem dX11_readUnit_105 : decode cX11_readUnit 105 = .ok (.aload_n 0, 1) := by decide +kernel
theorem dX11_readUnit_106 : decode cX11_readUnit 106 = .ok (.iconst 4, 1) := by decide +kernel
theorem dX11_readUnit_107 : decode cX11_readUnit 107 = .ok (.bipush 7, 2) := by decide +kernel
theorem dX11_readUnit_109 : decode cX11_readUnit 109 = .ok (.invokevirtual 247, 3) := by decide +kernel
theorem dX11_readUnit_112 : decode cX11_readUnit 112 = .ok (.goto 40, 3) := by decide +kernel
theorem dX11_readUnit_115 : decode cX11_readUnit 115 = .ok (.aload_n 0, 1) := by decide +kernel
theorem dX11_readUnit_116 : decode cX11_readUnit 116 = .ok (.invokevirtual 252, 3) := by decide +kernel
theorem dX11_readUnit_119 : decode cX11_readUnit 119 = .ok (.istore_n 1, 1) := by decide +kernel
theorem dX11_readUnit_120 : decode cX11_readUnit 120 = .ok (.iload_n 1, 1) := by decide +kernel
theorem dX11_readUnit_121 : decode cX11_readUnit 121 = .ok (.iconst (-1), 1) := by decide +kernel
theorem dX11_readUnit_122 : decode cX11_readUnit 122 = .ok (.if_icmp .ne 12, 3) := by decide +kernel
theorem dX11_readUnit_125 : decode cX11_readUnit 125 = .ok (.aload_n 0, 1) := by decide +kernel
theorem dX11_readUnit_126 : decode cX11_readUnit 126 = .ok (.iconst 1, 1) := by decide +kernel
theorem dX11_readUnit_127 : decode cX11_readUnit 127 = .ok (.aload_n 0, 1) := by decide +kernel
theorem dX11_readUnit_128 : decode cX11_readUnit 128 = .ok (.getfield 109, 3) := by decide +kernel
theorem dX11_readUnit_131 : decode cX11_readUnit 131 = .ok (.invokevirtual 139, 3) := by decide +kernel
theorem dX11_readUnit_134 : decode cX11_readUnit 134 = .ok (.aload_n 0, 1) := by decide +kernel
theorem dX11_readUnit_135 : decode cX11_readUnit 135 = .ok (.invokevirtual 132, 3) := by decide +kernel
theorem dX11_readUnit_138 : decode cX11_readUnit 138 = .ok (.ifCond .ne 4, 3) := by decide +kernel
theorem dX11_readUnit_141 : decode cX11_readUnit 141 = .ok (.return_, 1) := by decide +kernel
theorem dX11_readUnit_142 : decode cX11_readUnit 142 = .ok (.aload_n 0, 1) := by decide +kernel
theorem dX11_readUnit_143 : decode cX11_readUnit 143 = .ok (.invokevirtual 200, 3) := by decide +kernel
theorem dX11_readUnit_146 : decode cX11_readUnit 146 = .ok (.aload_n 0, 1) := by decide +kernel
theorem dX11_readUnit_147 : decode cX11_readUnit 147 = .ok (.iconst 1, 1) := by decide +kernel
theorem dX11_readUnit_148 : decode cX11_readUnit 148 = .ok (.iload_n 1, 1) := by decide +kernel
theorem dX11_readUnit_149 : decode cX11_readUnit 149 = .ok (.invokevirtual 219, 3) := by decide +kernel
theorem dX11_readUnit_152 : decode cX11_readUnit 152 = .ok (.return_, 1) := by decide +kernel
theorem dX11_law_0 : decode cX11_law 0 = .ok (.aload_n 0, 1) := by decide +kernel
theorem dX11_law_1 : decode cX11_law 1 = .ok (.iconst 0, 1) := by decide +kernel
theorem dX11_law_2 : decode cX11_law 2 = .ok (.putfield 3, 3) := by decide +kernel
theorem dX11_law_5 : decode cX11_law 5 = .ok (.aload_n 0, 1) := by decide +kernel
theorem dX11_law_6 : decode cX11_law 6 = .ok (.iload_n 1, 1) := by decide +kernel
theorem dX11_law_7 : decode cX11_law 7 = .ok (.ifCond .lt 22, 3) := by decide +kernel
theorem dX11_law_10 : decode cX11_law 10 = .ok (.iload_n 1, 1) := by decide +kernel
theorem dX11_law_11 : decode cX11_law 11 = .ok (.aload_n 0, 1) := by decide +kernel
theorem dX11_law_12 : decode cX11_law 12 = .ok (.getfield 100, 3) := by decide +kernel
theorem dX11_law_15 : decode cX11_law 15 = .ok (.if_icmp .gt 14, 3) := by decide +kernel
theorem dX11_law_18 : decode cX11_law 18 = .ok (.iload_n 1, 1) := by decide +kernel
theorem dX11_law_19 : decode cX11_law 19 = .ok (.sipush 150, 3) := by decide +kernel
theorem dX11_law_22 : decode cX11_law 22 = .ok (.if_icmp .gt 7, 3) := by decide +kernel
theorem dX11_law_25 : decode cX11_law 25 = .ok (.iconst 1, 1) := by decide +kernel
theorem dX11_law_26 : decode cX11_law 26 = .ok (.goto 4, 3) := by decide +kernel
theorem dX11_law_29 : decode cX11_law 29 = .ok (.iconst 0, 1) := by decide +kernel
theorem dX11_law_30 : decode cX11_law 30 = .ok (.iconst 1, 1) := by decide +kernel
theorem dX11_law_31 : decode cX11_law 31 = .ok (.iconst 1, 1) := by decide +kernel
theorem dX11_law_32 : decode cX11_law 32 = .ok (.invokevirtual 185, 3) := by decide +kernel
theorem dX11_law_35 : decode cX11_law 35 = .ok (.ifCond .ne 5, 3) := by decide +kernel
theorem dX11_law_38 : decode cX11_law 38 = .ok (.iconst 0, 1) := by decide +kernel
theorem dX11_law_39 : decode cX11_law 39 = .ok (.ireturn, 1) := by decide +kernel
theorem dX11_law_40 : decode cX11_law 40 = .ok (.aload_n 0, 1) := by decide +kernel
theorem dX11_law_41 : decode cX11_law 41 = .ok (.iload_n 1, 1) := by decide +kernel
theorem dX11_law_42 : decode cX11_law 42 = .ok (.invokevirtual 189, 3) := by decide +kernel
theorem dX11_law_45 : decode cX11_law 45 = .ok (.aload_n 0, 1) := by decide +kernel
theorem dX11_law_46 : decode cX11_law 46 = .ok (.iconst 0, 1) := by decide +kernel
theorem dX11_law_47 : decode cX11_law 47 = .ok (.putfield 213, 3) := by decide +kernel
theorem dX11_law_50 : decode cX11_law 50 = .ok (.aload_n 0, 1) := by decide +kernel
theorem dX11_law_51 : decode cX11_law 51 = .ok (.invokevirtual 228, 3) := by decide +kernel
theorem dX11_law_54 : decode cX11_law 54 = .ok (.aload_n 0, 1) := by decide +kernel
theorem dX11_law_55 : decode cX11_law 55 = .ok (.invokevirtual 132, 3) := by decide +kernel
theorem dX11_law_58 : decode cX11_law 58 = .ok (.ifCond .eq 19, 3) := by decide +kernel
theorem dX11_law_61 : decode cX11_law 61 = .ok (.aload_n 0, 1) := by decide +kernel
theorem dX11_law_62 : decode cX11_law 62 = .ok (.invokevirtual 193, 3) := by decide +kernel
theorem dX11_law_65 : decode cX11_law 65 = .ok (.ifCond .eq 12, 3) := by decide +kernel
theorem dX11_law_68 : decode cX11_law 68 = .ok (.aload_n 0, 1) := by decide +kernel
theorem dX11_law_69 : decode cX11_law 69 = .ok (.iconst 1, 1) := by decide +kernel
theorem dX11_law_70 : decode cX11_law 70 = .ok (.aload_n 0, 1) := by decide +kernel
theorem dX11_law_71 : decode cX11_law 71 = .ok (.getfield 109, 3) := by decide +kernel
theorem dX11_law_74 : decode cX11_law 74 = .ok (.invokevirtual 139, 3) := by decide +kernel
theorem dX11_law_77 : decode cX11_law 77 = .ok (.aload_n 0, 1) := by decide +kernel
theorem dX11_law_78 : decode cX11_law 78 = .ok (.iconst 1, 1) := by decide +kernel
theorem dX11_law_79 : decode cX11_law 79 = .ok (.invokevirtual 209, 3) := by decide +kernel
theorem dX11_law_82 : decode cX11_law 82 = .ok (.istore_n 2, 1) := by decide +kernel
theorem dX11_law_83 : decode cX11_law 83 = .ok (.aload_n 0, 1) := by decide +kernel
theorem dX11_law_84 : decode cX11_law 84 = .ok (.getfield 103, 3) := by decide +kernel
theorem dX11_law_87 : decode cX11_law 87 = .ok (.iconst (-1), 1) := by decide +kernel
theorem dX11_law_88 : decode cX11_law 88 = .ok (.if_icmp .eq 5, 3) := by decide +kernel
theorem dX11_law_91 : decode cX11_law 91 = .ok (.iload_n 2, 1) := by decide +kernel
theorem dX11_law_92 : decode cX11_law 92 = .ok (.ireturn, 1) := by decide +kernel
theorem dX11_law_93 : decode cX11_law 93 = .ok (.aload_n 0, 1) := by decide +kernel
theorem dX11_law_94 : decode cX11_law 94 = .ok (.aload_n 0, 1) := by decide +kernel
theorem dX11_law_95 : decode cX11_law 95 = .ok (.getfield 213, 3) := by decide +kernel
theorem dX11_law_98 : decode cX11_law 98 = .ok (.putfield 158, 3) := by decide +kernel
theorem dX11_law_101 : decode cX11_law 101 = .ok (.aload_n 0, 1) := by decide +kernel
theorem dX11_law_102 : decode cX11_law 102 = .ok (.aload_n 0, 1) := by decide +kernel
theorem dX11_law_103 : decode cX11_law 103 = .ok (.getfield 32, 3) := by decide +kernel
theorem dX11_law_106 : decode cX11_law 106 = .ok (.aload_n 0, 1) := by decide +kernel
theorem dX11_law_107 : decode cX11_law 107 = .ok (.getfield 38, 3) := by decide +kernel
theorem dX11_law_110 : decode cX11_law 110 = .ok (.aload_n 0, 1) := by decide +kernel
theorem dX11_law_111 : decode cX11_law 111 = .ok (.getfield 213, 3) := by decide +kernel
theorem dX11_law_114 : decode cX11_law 114 = .ok (.invokevirtual 255, 3) := by decide +kernel
theorem dX11_law_117 : decode cX11_law 117 = .ok (.aload_n 0, 1) := by decide +kernel
theorem dX11_law_118 : decode cX11_law 118 = .ok (.aload_n 0, 1) := by decide +kernel
theorem dX11_law_119 : decode cX11_law 119 = .ok (.getfield 35, 3) := by decide +kernel
theorem dX11_law_122 : decode cX11_law 122 = .ok (.aload_n 0, 1) := by decide +kernel
theorem dX11_law_123 : decode cX11_law 123 = .ok (.getfield 41, 3) := by decide +kernel
theorem dX11_law_126 : decode cX11_law 126 = .ok (.aload_n 0, 1) := by decide +kernel
theorem dX11_law_127 : decode cX11_law 127 = .ok (.getfield 213, 3) := by decide +kernel
theorem dX11_law_130 : decode cX11_law 130 = .ok (.invokevirtual 255, 3) := by decide +kernel
theorem dX11_law_133 : decode cX11_law 133 = .ok (.iload_n 2, 1) := by decide +kernel
theorem dX11_law_134 : decode cX11_law 134 = .ok (.ireturn, 1) := by decide +kernel
theorem dX11_valueNow_0 : decode cX11_valueNow 0 = .ok (.iconst 0, 1) := by decide +kernel
theorem dX11_valueNow_1 : decode cX11_valueNow 1 = .ok (.istore_n 1, 1) := by decide +kernel
theorem dX11_valueNow_2 : decode cX11_valueNow 2 = .ok (.iconst 0, 1) := by decide +kernel
theorem dX11_valueNow_3 : decode cX11_valueNow 3 = .ok (.istore_n 2, 1) := by decide +kernel
theorem dX11_valueNow_4 : decode cX11_valueNow 4 = .ok (.iload_n 2, 1) := by decide +kernel
theorem dX11_valueNow_5 : decode cX11_valueNow 5 = .ok (.aload_n 0, 1) := by decide +kernel
theorem dX11_valueNow_6 : decode cX11_valueNow 6 = .ok (.getfield 158, 3) := by decide +kernel
theorem dX11_valueNow_9 : decode cX11_valueNow 9 = .ok (.if_icmp .ge 86, 3) := by decide +kernel
theorem dX11_valueNow_12 : decode cX11_valueNow 12 = .ok (.aload_n 0, 1) := by decide +kernel
theorem dX11_valueNow_13 : decode cX11_valueNow 13 = .ok (.getfield 38, 3) := by decide +kernel
theorem dX11_valueNow_16 : decode cX11_valueNow 16 = .ok (.iload_n 2, 1) := by decide +kernel
theorem dX11_valueNow_17 : decode cX11_valueNow 17 = .ok (.iaload, 1) := by decide +kernel
theorem dX11_valueNow_18 : decode cX11_valueNow 18 = .ok (.istore_n 3, 1) := by decide +kernel
theorem dX11_valueNow_19 : decode cX11_valueNow 19 = .ok (.iload_n 3, 1) := by decide +kernel
theorem dX11_valueNow_20 : decode cX11_valueNow 20 = .ok (.iconst 1, 1) := by decide +kernel
theorem dX11_valueNow_21 : decode cX11_valueNow 21 = .ok (.if_icmp .gt 39, 3) := by decide +kernel
theorem dX11_valueNow_24 : decode cX11_valueNow 24 = .ok (.aload_n 0, 1) := by decide +kernel
theorem dX11_valueNow_25 : decode cX11_valueNow 25 = .ok (.getfield 44, 3) := by decide +kernel
theorem dX11_valueNow_28 : decode cX11_valueNow 28 = .ok (.iload_n 1, 1) := by decide +kernel
theorem dX11_valueNow_29 : decode cX11_valueNow 29 = .ok (.iload_n 3, 1) := by decide +kernel
theorem dX11_valueNow_30 : decode cX11_valueNow 30 = .ok (.ifCond .ne 12, 3) := by decide +kernel
theorem dX11_valueNow_33 : decode cX11_valueNow 33 = .ok (.aload_n 0, 1) := by decide +kernel
theorem dX11_valueNow_34 : decode cX11_valueNow 34 = .ok (.getfield 41, 3) := by decide +kernel
theorem dX11_valueNow_37 : decode cX11_valueNow 37 = .ok (.iload_n 2, 1) := by decide +kernel
theorem dX11_valueNow_38 : decode cX11_valueNow 38 = .ok (.iaload, 1) := by decide +kernel
theorem dX11_valueNow_39 : decode cX11_valueNow 39 = .ok (.goto 14, 3) := by decide +kernel
theorem dX11_valueNow_42 : decode cX11_valueNow 42 = .ok (.aload_n 0, 1) := by decide +kernel
theorem dX11_valueNow_43 : decode cX11_valueNow 43 = .ok (.getfield 47, 3) := by decide +kernel
theorem dX11_valueNow_46 : decode cX11_valueNow 46 = .ok (.aload_n 0, 1) := by decide +kernel
theorem dX11_valueNow_47 : decode cX11_valueNow 47 = .ok (.getfield 41, 3) := by decide +kernel
theorem dX11_valueNow_50 : decode cX11_valueNow 50 = .ok (.iload_n 2, 1) := by decide +kernel
theorem dX11_valueNow_51 : decode cX11_valueNow 51 = .ok (.iaload, 1) := by decide +kernel
theorem dX11_valueNow_52 : decode cX11_valueNow 52 = .ok (.iaload, 1) := by decide +kernel
theorem dX11_valueNow_53 : decode cX11_valueNow 53 = .ok (.iastore, 1) := by decide +kernel
theorem dX11_valueNow_54 : decode cX11_valueNow 54 = .ok (.iinc 1 1, 3) := by decide +kernel
theorem dX11_valueNow_57 : decode cX11_valueNow 57 = .ok (.goto 32, 3) := by decide +kernel
theorem dX11_valueNow_60 : decode cX11_valueNow 60 = .ok (.iinc 1 (-1), 3) := by decide +kernel
theorem dX11_valueNow_63 : decode cX11_valueNow 63 = .ok (.aload_n 0, 1) := by decide +kernel
theorem dX11_valueNow_64 : decode cX11_valueNow 64 = .ok (.getfield 44, 3) := by decide +kernel
theorem dX11_valueNow_67 : decode cX11_valueNow 67 = .ok (.iload_n 1, 1) := by decide +kernel
theorem dX11_valueNow_68 : decode cX11_valueNow 68 = .ok (.iconst 1, 1) := by decide +kernel
theorem dX11_valueNow_69 : decode cX11_valueNow 69 = .ok (.isub, 1) := by decide +kernel
theorem dX11_valueNow_70 : decode cX11_valueNow 70 = .ok (.iload_n 3, 1) := by decide +kernel
theorem dX11_valueNow_71 : decode cX11_valueNow 71 = .ok (.aload_n 0, 1) := by decide +kernel
theorem dX11_valueNow_72 : decode cX11_valueNow 72 = .ok (.getfield 44, 3) := by decide +kernel
theorem dX11_valueNow_75 : decode cX11_valueNow 75 = .ok (.iload_n 1, 1) := by decide +kernel
theorem dX11_valueNow_76 : decode cX11_valueNow 76 = .ok (.iconst 1, 1) := by decide +kernel
theorem dX11_valueNow_77 : decode cX11_valueNow 77 = .ok (.isub, 1) := by decide +kernel
theorem dX11_valueNow_78 : decode cX11_valueNow 78 = .ok (.iaload, 1) := by decide +kernel
theorem dX11_valueNow_79 : decode cX11_valueNow 79 = .ok (.aload_n 0, 1) := by decide +kernel
theorem dX11_valueNow_80 : decode cX11_valueNow 80 = .ok (.getfield 44, 3) := by decide +kernel
theorem dX11_valueNow_83 : decode cX11_valueNow 83 = .ok (.iload_n 1, 1) := by decide +kernel
theorem dX11_valueNow_84 : decode cX11_valueNow 84 = .ok (.iaload, 1) := by decide +kernel
theorem dX11_valueNow_85 : decode cX11_valueNow 85 = .ok (.invokestatic 259, 3) := by decide +kernel
theorem dX11_valueNow_88 : decode cX11_valueNow 88 = .ok (.iastore, 1) := by decide +kernel
theorem dX11_valueNow_89 : decode cX11_valueNow 89 = .ok (.iinc 2 1, 3) := by decide +kernel
theorem dX11_valueNow_92 : decode cX11_valueNow 92 = .ok (.goto (-88), 3) := by decide +kernel
theorem dX11_valueNow_95 : decode cX11_valueNow 95 = .ok (.aload_n 0, 1) := by decide +kernel
theorem dX11_valueNow_96 : decode cX11_valueNow 96 = .ok (.getfield 44, 3) := by decide +kernel
theorem dX11_valueNow_99 : decode cX11_valueNow 99 = .ok (.iconst 0, 1) := by decide +kernel
theorem dX11_valueNow_100 : decode cX11_valueNow 100 = .ok (.iaload, 1) := by decide +kernel
theorem dX11_valueNow_101 : decode cX11_valueNow 101 = .ok (.ireturn, 1) := by decide +kernel
theorem dX11_both_0 : decode cX11_both 0 = .ok (.iload_n 0, 1) := by decide +kernel
theorem dX11_both_1 : decode cX11_both 1 = .ok (.iconst 2, 1) := by decide +kernel
theorem dX11_both_2 : decode cX11_both 2 = .ok (.if_icmp .ne 7, 3) := by decide +kernel
theorem dX11_both_5 : decode cX11_both 5 = .ok (.iload_n 1, 1) := by decide +kernel
theorem dX11_both_6 : decode cX11_both 6 = .ok (.iload_n 2, 1) := by decide +kernel
theorem dX11_both_7 : decode cX11_both 7 = .ok (.iadd, 1) := by decide +kernel
theorem dX11_both_8 : decode cX11_both 8 = .ok (.ireturn, 1) := by decide +kernel
theorem dX11_both_9 : decode cX11_both 9 = .ok (.iload_n 0, 1) := by decide +kernel
theorem dX11_both_10 : decode cX11_both 10 = .ok (.iconst 3, 1) := by decide +kernel
theorem dX11_both_11 : decode cX11_both 11 = .ok (.if_icmp .ne 7, 3) := by decide +kernel
theorem dX11_both_14 : decode cX11_both 14 = .ok (.iload_n 1, 1) := by decide +kernel
theorem dX11_both_15 : decode cX11_both 15 = .ok (.iload_n 2, 1) := by decide +kernel
theorem dX11_both_16 : decode cX11_both 16 = .ok (.isub, 1) := by decide +kernel
theorem dX11_both_17 : decode cX11_both 17 = .ok (.ireturn, 1) := by decide +kernel
theorem dX11_both_18 : decode cX11_both 18 = .ok (.iload_n 0, 1) := by decide +kernel
theorem dX11_both_19 : decode cX11_both 19 = .ok (.iconst 4, 1) := by decide +kernel
theorem dX11_both_20 : decode cX11_both 20 = .ok (.if_icmp .ne 7, 3) := by decide +kernel
theorem dX11_both_23 : decode cX11_both 23 = .ok (.iload_n 1, 1) := by decide +kernel
theorem dX11_both_24 : decode cX11_both 24 = .ok (.iload_n 2, 1) := by decide +kernel
theorem dX11_both_25 : decode cX11_both 25 = .ok (.imul, 1) := by decide +kernel
theorem dX11_both_26 : decode cX11_both 26 = .ok (.ireturn, 1) := by decide +kernel
theorem dX11_both_27 : decode cX11_both 27 = .ok (.iload_n 0, 1) := by decide +kernel
theorem dX11_both_28 : decode cX11_both 28 = .ok (.iconst 5, 1) := by decide +kernel
theorem dX11_both_29 : decode cX11_both 29 = .ok (.if_icmp .eq 9, 3) := by decide +kernel
theorem dX11_both_32 : decode cX11_both 32 = .ok (.iload_n 0, 1) := by decide +kernel
theorem dX11_both_33 : decode cX11_both 33 = .ok (.bipush 8, 2) := by decide +kernel
theorem dX11_both_35 : decode cX11_both 35 = .ok (.if_icmp .ne 26, 3) := by decide +kernel
theorem dX11_both_38 : decode cX11_both 38 = .ok (.iload_n 2, 1) := by decide +kernel
theorem dX11_both_39 : decode cX11_both 39 = .ok (.ifCond .ne 7, 3) := by decide +kernel
theorem dX11_both_42 : decode cX11_both 42 = .ok (.iconst 0, 1) := by decide +kernel
theorem dX11_both_43 : decode cX11_both 43 = .ok (.goto 17, 3) := by decide +kernel
theorem dX11_both_46 : decode cX11_both 46 = .ok (.iload_n 0, 1) := by decide +kernel
theorem dX11_both_47 : decode cX11_both 47 = .ok (.iconst 5, 1) := by decide +kernel
theorem dX11_both_48 : decode cX11_both 48 = .ok (.if_icmp .ne 9, 3) := by decide +kernel
theorem dX11_both_51 : decode cX11_both 51 = .ok (.iload_n 1, 1) := by decide +kernel
theorem dX11_both_52 : decode cX11_both 52 = .ok (.iload_n 2, 1) := by decide +kernel
theorem dX11_both_53 : decode cX11_both 53 = .ok (.idiv, 1) := by decide +kernel
theorem dX11_both_54 : decode cX11_both 54 = .ok (.goto 6, 3) := by decide +kernel
theorem dX11_both_57 : decode cX11_both 57 = .ok (.iload_n 1, 1) := by decide +kernel
theorem dX11_both_58 : decode cX11_both 58 = .ok (.iload_n 2, 1) := by decide +kernel
theorem dX11_both_59 : decode cX11_both 59 = .ok (.irem, 1) := by decide +kernel
theorem dX11_both_60 : decode cX11_both 60 = .ok (.ireturn, 1) := by decide +kernel
theorem dX11_both_61 : decode cX11_both 61 = .ok (.iload_n 1, 1) := by decide +kernel
theorem dX11_both_62 : decode cX11_both 62 = .ok (.iload_n 2, 1) := by decide +kernel
theorem dX11_both_63 : decode cX11_both 63 = .ok (.if_icmp .ge 7, 3) := by decide +kernel
theorem dX11_both_66 : decode cX11_both 66 = .ok (.iconst 1, 1) := by decide +kernel
theorem dX11_both_67 : decode cX11_both 67 = .ok (.goto 4, 3) := by decide +kernel
theorem dX11_both_70 : decode cX11_both 70 = .ok (.iconst 0, 1) := by decide +kernel
theorem dX11_both_71 : decode cX11_both 71 = .ok (.iload_n 0, 1) := by decide +kernel
theorem dX11_both_72 : decode cX11_both 72 = .ok (.bipush 6, 2) := by decide +kernel
theorem dX11_both_74 : decode cX11_both 74 = .ok (.if_icmp .ne 7, 3) := by decide +kernel
theorem dX11_both_77 : decode cX11_both 77 = .ok (.iconst 1, 1) := by decide +kernel
theorem dX11_both_78 : decode cX11_both 78 = .ok (.goto 4, 3) := by decide +kernel
theorem dX11_both_81 : decode cX11_both 81 = .ok (.iconst 0, 1) := by decide +kernel
theorem dX11_both_82 : decode cX11_both 82 = .ok (.if_icmp .ne 7, 3) := by decide +kernel
theorem dX11_both_85 : decode cX11_both 85 = .ok (.iload_n 1, 1) := by decide +kernel
theorem dX11_both_86 : decode cX11_both 86 = .ok (.goto 4, 3) := by decide +kernel
theorem dX11_both_89 : decode cX11_both 89 = .ok (.iload_n 2, 1) := by decide +kernel
theorem dX11_both_90 : decode cX11_both 90 = .ok (.ireturn, 1) := by decide +kernel
theorem dX11_fareNow_0 : decode cX11_fareNow 0 = .ok (.aload_n 0, 1) := by decide +kernel
theorem dX11_fareNow_1 : decode cX11_fareNow 1 = .ok (.getfield 158, 3) := by decide +kernel
theorem dX11_fareNow_4 : decode cX11_fareNow 4 = .ok (.ifCond .ne 21, 3) := by decide +kernel
theorem dX11_fareNow_7 : decode cX11_fareNow 7 = .ok (.aload_n 0, 1) := by decide +kernel
theorem dX11_fareNow_8 : decode cX11_fareNow 8 = .ok (.getfield 47, 3) := by decide +kernel
theorem dX11_fareNow_11 : decode cX11_fareNow 11 = .ok (.iconst 1, 1) := by decide +kernel
theorem dX11_fareNow_12 : decode cX11_fareNow 12 = .ok (.iaload, 1) := by decide +kernel
theorem dX11_fareNow_13 : decode cX11_fareNow 13 = .ok (.iconst 1, 1) := by decide +kernel
theorem dX11_fareNow_14 : decode cX11_fareNow 14 = .ok (.aload_n 0, 1) := by decide +kernel
theorem dX11_fareNow_15 : decode cX11_fareNow 15 = .ok (.getfield 47, 3) := by decide +kernel
theorem dX11_fareNow_18 : decode cX11_fareNow 18 = .ok (.iconst 2, 1) := by decide +kernel
theorem dX11_fareNow_19 : decode cX11_fareNow 19 = .ok (.iaload, 1) := by decide +kernel
theorem dX11_fareNow_20 : decode cX11_fareNow 20 = .ok (.iadd, 1) := by decide +kernel
theorem dX11_fareNow_21 : decode cX11_fareNow 21 = .ok (.idiv, 1) := by decide +kernel
theorem dX11_fareNow_22 : decode cX11_fareNow 22 = .ok (.goto 7, 3) := by decide +kernel
theorem dX11_fareNow_25 : decode cX11_fareNow 25 = .ok (.aload_n 0, 1) := by decide +kernel
theorem dX11_fareNow_26 : decode cX11_fareNow 26 = .ok (.invokevirtual 263, 3) := by decide +kernel
theorem dX11_fareNow_29 : decode cX11_fareNow 29 = .ok (.istore_n 1, 1) := by decide +kernel
theorem dX11_fareNow_30 : decode cX11_fareNow 30 = .ok (.iload_n 1, 1) := by decide +kernel
theorem dX11_fareNow_31 : decode cX11_fareNow 31 = .ok (.ifCond .ge 7, 3) := by decide +kernel
theorem dX11_fareNow_34 : decode cX11_fareNow 34 = .ok (.iconst 0, 1) := by decide +kernel
theorem dX11_fareNow_35 : decode cX11_fareNow 35 = .ok (.goto 15, 3) := by decide +kernel
theorem dX11_fareNow_38 : decode cX11_fareNow 38 = .ok (.iload_n 1, 1) := by decide +kernel
theorem dX11_fareNow_39 : decode cX11_fareNow 39 = .ok (.bipush 99, 2) := by decide +kernel
theorem dX11_fareNow_41 : decode cX11_fareNow 41 = .ok (.if_icmp .le 8, 3) := by decide +kernel
theorem dX11_fareNow_44 : decode cX11_fareNow 44 = .ok (.bipush 99, 2) := by decide +kernel
theorem dX11_fareNow_46 : decode cX11_fareNow 46 = .ok (.goto 4, 3) := by decide +kernel
theorem dX11_fareNow_49 : decode cX11_fareNow 49 = .ok (.iload_n 1, 1) := by decide +kernel
theorem dX11_fareNow_50 : decode cX11_fareNow 50 = .ok (.ireturn, 1) := by decide +kernel
theorem dX11_tellsStep_0 : decode cX11_tellsStep 0 = .ok (.aload_n 0, 1) := by decide +kernel
theorem dX11_tellsStep_1 : decode cX11_tellsStep 1 = .ok (.invokevirtual 132, 3) := by decide +kernel
theorem dX11_tellsStep_4 : decode cX11_tellsStep 4 = .ok (.ifCond .ne 4, 3) := by decide +kernel
theorem dX11_tellsStep_7 : decode cX11_tellsStep 7 = .ok (.return_, 1) := by decide +kernel
theorem dX11_tellsStep_8 : decode cX11_tellsStep 8 = .ok (.aload_n 0, 1) := by decide +kernel
theorem dX11_tellsStep_9 : decode cX11_tellsStep 9 = .ok (.getfield 50, 3) := by decide +kernel
theorem dX11_tellsStep_12 : decode cX11_tellsStep 12 = .ok (.aload_n 0, 1) := by decide +kernel
theorem dX11_tellsStep_13 : decode cX11_tellsStep 13 = .ok (.getfield 266, 3) := by decide +kernel
theorem dX11_tellsStep_16 : decode cX11_tellsStep 16 = .ok (.iload_n 1, 1) := by decide +kernel
theorem dX11_tellsStep_17 : decode cX11_tellsStep 17 = .ok (.iastore, 1) := by decide +kernel
theorem dX11_tellsStep_18 : decode cX11_tellsStep 18 = .ok (.aload_n 0, 1) := by decide +kernel
theorem dX11_tellsStep_19 : decode cX11_tellsStep 19 = .ok (.getfield 50, 3) := by decide +kernel
theorem dX11_tellsStep_22 : decode cX11_tellsStep 22 = .ok (.aload_n 0, 1) := by decide +kernel
theorem dX11_tellsStep_23 : decode cX11_tellsStep 23 = .ok (.getfield 266, 3) := by decide +kernel
theorem dX11_tellsStep_26 : decode cX11_tellsStep 26 = .ok (.iconst 1, 1) := by decide +kernel
theorem dX11_tellsStep_27 : decode cX11_tellsStep 27 = .ok (.iadd, 1) := by decide +kernel
theorem dX11_tellsStep_28 : decode cX11_tellsStep 28 = .ok (.iload_n 2, 1) := by decide +kernel
theorem dX11_tellsStep_29 : decode cX11_tellsStep 29 = .ok (.iastore, 1) := by decide +kernel
theorem dX11_tellsStep_30 : decode cX11_tellsStep 30 = .ok (.aload_n 0, 1) := by decide +kernel
theorem dX11_tellsStep_31 : decode cX11_tellsStep 31 = .ok (.getfield 50, 3) := by decide +kernel
theorem dX11_tellsStep_34 : decode cX11_tellsStep 34 = .ok (.aload_n 0, 1) := by decide +kernel
theorem dX11_tellsStep_35 : decode cX11_tellsStep 35 = .ok (.getfield 266, 3) := by decide +kernel
theorem dX11_tellsStep_38 : decode cX11_tellsStep 38 = .ok (.iconst 2, 1) := by decide +kernel
theorem dX11_tellsStep_39 : decode cX11_tellsStep 39 = .ok (.iadd, 1) := by decide +kernel
theorem dX11_tellsStep_40 : decode cX11_tellsStep 40 = .ok (.iload_n 3, 1) := by decide +kernel
theorem dX11_tellsStep_41 : decode cX11_tellsStep 41 = .ok (.iastore, 1) := by decide +kernel
theorem dX11_tellsStep_42 : decode cX11_tellsStep 42 = .ok (.aload_n 0, 1) := by decide +kernel
theorem dX11_tellsStep_43 : decode cX11_tellsStep 43 = .ok (.getfield 50, 3) := by decide +kernel
theorem dX11_tellsStep_46 : decode cX11_tellsStep 46 = .ok (.aload_n 0, 1) := by decide +kernel
theorem dX11_tellsStep_47 : decode cX11_tellsStep 47 = .ok (.getfield 266, 3) := by decide +kernel
theorem dX11_tellsStep_50 : decode cX11_tellsStep 50 = .ok (.iconst 3, 1) := by decide +kernel
theorem dX11_tellsStep_51 : decode cX11_tellsStep 51 = .ok (.iadd, 1) := by decide +kernel
theorem dX11_tellsStep_52 : decode cX11_tellsStep 52 = .ok (.iload 4, 2) := by decide +kernel
theorem dX11_tellsStep_54 : decode cX11_tellsStep 54 = .ok (.iastore, 1) := by decide +kernel
theorem dX11_tellsStep_55 : decode cX11_tellsStep 55 = .ok (.aload_n 0, 1) := by decide +kernel
theorem dX11_tellsStep_56 : decode cX11_tellsStep 56 = .ok (.dup, 1) := by decide +kernel
theorem dX11_tellsStep_57 : decode cX11_tellsStep 57 = .ok (.getfield 266, 3) := by decide +kernel
theorem dX11_tellsStep_60 : decode cX11_tellsStep 60 = .ok (.iconst 4, 1) := by decide +kernel
theorem dX11_tellsStep_61 : decode cX11_tellsStep 61 = .ok (.iadd, 1) := by decide +kernel
theorem dX11_tellsStep_62 : decode cX11_tellsStep 62 = .ok (.putfield 266, 3) := by decide +kernel
theorem dX11_tellsStep_65 : decode cX11_tellsStep 65 = .ok (.return_, 1) := by decide +kernel
theorem dX11_readOwned_0 : decode cX11_readOwned 0 = .ok (.aload_n 0, 1) := by decide +kernel
theorem dX11_readOwned_1 : decode cX11_readOwned 1 = .ok (.iconst 0, 1) := by decide +kernel
theorem dX11_readOwned_2 : decode cX11_readOwned 2 = .ok (.bipush 60, 2) := by decide +kernel
theorem dX11_readOwned_4 : decode cX11_readOwned 4 = .ok (.invokevirtual 179, 3) := by decide +kernel
theorem dX11_readOwned_7 : decode cX11_readOwned 7 = .ok (.ireturn, 1) := by decide +kernel
theorem dX11_readStep_0 : decode cX11_readStep 0 = .ok (.aload_n 0, 1) := by decide +kernel
theorem dX11_readStep_1 : decode cX11_readStep 1 = .ok (.invokevirtual 196, 3) := by decide +kernel
theorem dX11_readStep_4 : decode cX11_readStep 4 = .ok (.istore_n 1, 1) := by decide +kernel
theorem dX11_readStep_5 : decode cX11_readStep 5 = .ok (.iload_n 1, 1) := by decide +kernel
theorem dX11_readStep_6 : decode cX11_readStep 6 = .ok (.ldc 243, 2) := by decide +kernel
theorem dX11_readStep_8 : decode cX11_readStep 8 = .ok (.invokestatic 175, 3) := by decide +kernel
theorem dX11_readStep_11 : decode cX11_readStep 11 = .ok (.if_icmp .ne 18, 3) := by decide +kernel
theorem dX11_readStep_14 : decode cX11_readStep 14 = .ok (.aload_n 0, 1) := by decide +kernel
theorem dX11_readStep_15 : decode cX11_readStep 15 = .ok (.invokevirtual 200, 3) := by decide +kernel
theorem dX11_readStep_18 : decode cX11_readStep 18 = .ok (.aload_n 0, 1) := by decide +kernel
theorem dX11_readStep_19 : decode cX11_readStep 19 = .ok (.iconst 3, 1) := by decide +kernel
theorem dX11_readStep_20 : decode cX11_readStep 20 = .ok (.iconst 0, 1) := by decide +kernel
theorem dX11_readStep_21 : decode cX11_readStep 21 = .ok (.iconst 0, 1) := by decide +kernel
theorem dX11_readStep_22 : decode cX11_readStep 22 = .ok (.iconst 0, 1) := by decide +kernel
theorem dX11_readStep_23 : decode cX11_readStep 23 = .ok (.invokevirtual 269, 3) := by decide +kernel
theorem dX11_readStep_26 : decode cX11_readStep 26 = .ok (.goto 246, 3) := by decide +kernel
theorem dX11_readStep_29 : decode cX11_readStep 29 = .ok (.iload_n 1, 1) := by decide +kernel
theorem dX11_readStep_30 : decode cX11_readStep 30 = .ok (.ldc_w 273, 3) := by decide +kernel
theorem dX11_readStep_33 : decode cX11_readStep 33 = .ok (.invokestatic 175, 3) := by decide +kernel
theorem dX11_readStep_36 : decode cX11_readStep 36 = .ok (.if_icmp .ne 40, 3) := by decide +kernel
theorem dX11_readStep_39 : decode cX11_readStep 39 = .ok (.aload_n 0, 1) := by decide +kernel
theorem dX11_readStep_40 : decode cX11_readStep 40 = .ok (.invokevirtual 200, 3) := by decide +kernel
theorem dX11_readStep_43 : decode cX11_readStep 43 = .ok (.aload_n 0, 1) := by decide +kernel
theorem dX11_readStep_44 : decode cX11_readStep 44 = .ok (.iconst 0, 1) := by decide +kernel
theorem dX11_readStep_45 : decode cX11_readStep 45 = .ok (.aload_n 0, 1) := by decide +kernel
theorem dX11_readStep_46 : decode cX11_readStep 46 = .ok (.getfield 152, 3) := by decide +kernel
theorem dX11_readStep_49 : decode cX11_readStep 49 = .ok (.iconst 1, 1) := by decide +kernel
theorem dX11_readStep_50 : decode cX11_readStep 50 = .ok (.isub, 1) := by decide +kernel
theorem dX11_readStep_51 : decode cX11_readStep 51 = .ok (.invokevirtual 179, 3) := by decide +kernel
theorem dX11_readStep_54 : decode cX11_readStep 54 = .ok (.istore_n 2, 1) := by decide +kernel
theorem dX11_readStep_55 : decode cX11_readStep 55 = .ok (.aload_n 0, 1) := by decide +kernel
theorem dX11_readStep_56 : decode cX11_readStep 56 = .ok (.invokevirtual 275, 3) := by decide +kernel
theorem dX11_readStep_59 : decode cX11_readStep 59 = .ok (.istore_n 3, 1) := by decide +kernel
theorem dX11_readStep_60 : decode cX11_readStep 60 = .ok (.aload_n 0, 1) := by decide +kernel
theorem dX11_readStep_61 : decode cX11_readStep 61 = .ok (.iconst 0, 1) := by decide +kernel
theorem dX11_readStep_62 : decode cX11_readStep 62 = .ok (.iload_n 2, 1) := by decide +kernel
theorem dX11_readStep_63 : decode cX11_readStep 63 = .ok (.iload_n 3, 1) := by decide +kernel
theorem dX11_readStep_64 : decode cX11_readStep 64 = .ok (.aload_n 0, 1) := by decide +kernel
theorem dX11_readStep_65 : decode cX11_readStep 65 = .ok (.iconst 0, 1) := by decide +kernel
theorem dX11_readStep_66 : decode cX11_readStep 66 = .ok (.iconst 2, 1) := by decide +kernel
theorem dX11_readStep_67 : decode cX11_readStep 67 = .ok (.invokevirtual 179, 3) := by decide +kernel
theorem dX11_readStep_70 : decode cX11_readStep 70 = .ok (.invokevirtual 269, 3) := by decide +kernel
theorem dX11_readStep_73 : decode cX11_readStep 73 = .ok (.goto 199, 3) := by decide +kernel
theorem dX11_readStep_76 : decode cX11_readStep 76 = .ok (.iload_n 1, 1) := by decide +kernel
theorem dX11_readStep_77 : decode cX11_readStep 77 = .ok (.ldc_w 278, 3) := by decide +kernel
theorem dX11_readStep_80 : decode cX11_readStep 80 = .ok (.invokestatic 175, 3) := by decide +kernel
theorem dX11_readStep_83 : decode cX11_readStep 83 = .ok (.if_icmp .ne 42, 3) := by decide +kernel
theorem dX11_readStep_86 : decode cX11_readStep 86 = .ok (.aload_n 0, 1) := by decide +kernel
theorem dX11_readStep_87 : decode cX11_readStep 87 = .ok (.invokevirtual 200, 3) := by decide +kernel
theorem dX11_readStep_90 : decode cX11_readStep 90 = .ok (.aload_n 0, 1) := by decide +kernel
theorem dX11_readStep_91 : decode cX11_readStep 91 = .ok (.invokevirtual 275, 3) := by decide +kernel
theorem dX11_readStep_94 : decode cX11_readStep 94 = .ok (.istore_n 2, 1) := by decide +kernel
theorem dX11_readStep_95 : decode cX11_readStep 95 = .ok (.aload_n 0, 1) := by decide +kernel
theorem dX11_readStep_96 : decode cX11_readStep 96 = .ok (.iconst 0, 1) := by decide +kernel
theorem dX11_readStep_97 : decode cX11_readStep 97 = .ok (.aload_n 0, 1) := by decide +kernel
theorem dX11_readStep_98 : decode cX11_readStep 98 = .ok (.getfield 152, 3) := by decide +kernel
theorem dX11_readStep_101 : decode cX11_readStep 101 = .ok (.iconst 1, 1) := by decide +kernel
theorem dX11_readStep_102 : decode cX11_readStep 102 = .ok (.isub, 1) := by decide +kernel
theorem dX11_readStep_103 : decode cX11_readStep 103 = .ok (.invokevirtual 179, 3) := by decide +kernel
theorem dX11_readStep_106 : decode cX11_readStep 106 = .ok (.istore_n 3, 1) := by decide +kernel
theorem dX11_readStep_107 : decode cX11_readStep 107 = .ok (.aload_n 0, 1) := by decide +kernel
theorem dX11_readStep_108 : decode cX11_readStep 108 = .ok (.iconst 1, 1) := by decide +kernel
theorem dX11_readStep_109 : decode cX11_readStep 109 = .ok (.iload_n 3, 1) := by decide +kernel
theorem dX11_readStep_110 : decode cX11_readStep 110 = .ok (.iload_n 2, 1) := by decide +kernel
theorem dX11_readStep_111 : decode cX11_readStep 111 = .ok (.aload_n 0, 1) := by decide +kernel
theorem dX11_readStep_112 : decode cX11_readStep 112 = .ok (.iconst 0, 1) := by decide +kernel
theorem dX11_readStep_113 : decode cX11_readStep 113 = .ok (.sipush 999, 3) := by decide +kernel
theorem dX11_readStep_116 : decode cX11_readStep 116 = .ok (.invokevirtual 179, 3) := by decide +kernel
theorem dX11_readStep_119 : decode cX11_readStep 119 = .ok (.invokevirtual 269, 3) := by decide +kernel
theorem dX11_readStep_122 : decode cX11_readStep 122 = .ok (.goto 150, 3) := by decide +kernel
theorem dX11_readStep_125 : decode cX11_readStep 125 = .ok (.iload_n 1, 1) := by decide +kernel
theorem dX11_readStep_126 : decode cX11_readStep 126 = .ok (.ldc 233, 2) := by decide +kernel
theorem dX11_readStep_128 : decode cX11_readStep 128 = .ok (.invokestatic 175, 3) := by decide +kernel
theorem dX11_readStep_131 : decode cX11_readStep 131 = .ok (.if_icmp .ne 29, 3) := by decide +kernel
theorem dX11_readStep_134 : decode cX11_readStep 134 = .ok (.aload_n 0, 1) := by decide +kernel
theorem dX11_readStep_135 : decode cX11_readStep 135 = .ok (.invokevirtual 200, 3) := by decide +kernel
theorem dX11_readStep_138 : decode cX11_readStep 138 = .ok (.aload_n 0, 1) := by decide +kernel
theorem dX11_readStep_139 : decode cX11_readStep 139 = .ok (.invokevirtual 275, 3) := by decide +kernel
theorem dX11_readStep_142 : decode cX11_readStep 142 = .ok (.istore_n 2, 1) := by decide +kernel
theorem dX11_readStep_143 : decode cX11_readStep 143 = .ok (.aload_n 0, 1) := by decide +kernel
theorem dX11_readStep_144 : decode cX11_readStep 144 = .ok (.iconst 2, 1) := by decide +kernel
theorem dX11_readStep_145 : decode cX11_readStep 145 = .ok (.iconst 0, 1) := by decide +kernel
theorem dX11_readStep_146 : decode cX11_readStep 146 = .ok (.iload_n 2, 1) := by decide +kernel
theorem dX11_readStep_147 : decode cX11_readStep 147 = .ok (.aload_n 0, 1) := by decide +kernel
theorem dX11_readStep_148 : decode cX11_readStep 148 = .ok (.iconst 0, 1) := by decide +kernel
theorem dX11_readStep_149 : decode cX11_readStep 149 = .ok (.bipush 40, 2) := by decide +kernel
theorem dX11_readStep_151 : decode cX11_readStep 151 = .ok (.invokevirtual 179, 3) := by decide +kernel
theorem dX11_readStep_154 : decode cX11_readStep 154 = .ok (.invokevirtual 269, 3) := by decide +kernel
theorem dX11_readStep_157 : decode cX11_readStep 157 = .ok (.goto 115, 3) := by decide +kernel
theorem dX11_readStep_160 : decode cX11_readStep 160 = .ok (.iload_n 1, 1) := by decide +kernel
theorem dX11_readStep_161 : decode cX11_readStep 161 = .ok (.ldc_w 280, 3) := by decide +kernel
theorem dX11_readStep_164 : decode cX11_readStep 164 = .ok (.invokestatic 175, 3) := by decide +kernel
theorem dX11_readStep_167 : decode cX11_readStep 167 = .ok (.if_icmp .ne 96, 3) := by decide +kernel
theorem dX11_readStep_170 : decode cX11_readStep 170 = .ok (.aload_n 0, 1) := by decide +kernel
theorem dX11_readStep_171 : decode cX11_readStep 171 = .ok (.iconst 5, 1) := by decide +kernel
theorem dX11_readStep_172 : decode cX11_readStep 172 = .ok (.invokevirtual 225, 3) := by decide +kernel
theorem dX11_readStep_175 : decode cX11_readStep 175 = .ok (.aload_n 0, 1) := by decide +kernel
theorem dX11_readStep_176 : decode cX11_readStep 176 = .ok (.iconst 0, 1) := by decide +kernel
theorem dX11_readStep_177 : decode cX11_readStep 177 = .ok (.bipush 60, 2) := by decide +kernel
theorem dX11_readStep_179 : decode cX11_readStep 179 = .ok (.invokevirtual 179, 3) := by decide +kernel
theorem dX11_readStep_182 : decode cX11_readStep 182 = .ok (.istore_n 2, 1) := by decide +kernel
theorem dX11_readStep_183 : decode cX11_readStep 183 = .ok (.aload_n 0, 1) := by decide +kernel
theorem dX11_readStep_184 : decode cX11_readStep 184 = .ok (.bipush 91, 2) := by decide +kernel
theorem dX11_readStep_186 : decode cX11_readStep 186 = .ok (.invokevirtual 206, 3) := by decide +kernel
theorem dX11_readStep_189 : decode cX11_readStep 189 = .ok (.aload_n 0, 1) := by decide +kernel
theorem dX11_readStep_190 : decode cX11_readStep 190 = .ok (.getfield 266, 3) := by decide +kernel
theorem dX11_readStep_193 : decode cX11_readStep 193 = .ok (.istore_n 3, 1) := by decide +kernel
theorem dX11_readStep_194 : decode cX11_readStep 194 = .ok (.aload_n 0, 1) := by decide +kernel
theorem dX11_readStep_195 : decode cX11_readStep 195 = .ok (.iconst 4, 1) := by decide +kernel
theorem dX11_readStep_196 : decode cX11_readStep 196 = .ok (.iload_n 2, 1) := by decide +kernel
theorem dX11_readStep_197 : decode cX11_readStep 197 = .ok (.iconst 0, 1) := by decide +kernel
theorem dX11_readStep_198 : decode cX11_readStep 198 = .ok (.iconst 0, 1) := by decide +kernel
theorem dX11_readStep_199 : decode cX11_readStep 199 = .ok (.invokevirtual 269, 3) := by decide +kernel
theorem dX11_readStep_202 : decode cX11_readStep 202 = .ok (.aload_n 0, 1) := by decide +kernel
theorem dX11_readStep_203 : decode cX11_readStep 203 = .ok (.invokevirtual 132, 3) := by decide +kernel
theorem dX11_readStep_206 : decode cX11_readStep 206 = .ok (.ifCond .eq 19, 3) := by decide +kernel
theorem dX11_readStep_209 : decode cX11_readStep 209 = .ok (.aload_n 0, 1) := by decide +kernel
theorem dX11_readStep_210 : decode cX11_readStep 210 = .ok (.invokevirtual 115, 3) := by decide +kernel
theorem dX11_readStep_213 : decode cX11_readStep 213 = .ok (.bipush 93, 2) := by decide +kernel
theorem dX11_readStep_215 : decode cX11_readStep 215 = .ok (.if_icmp .eq 10, 3) := by decide +kernel
theorem dX11_readStep_218 : decode cX11_readStep 218 = .ok (.aload_n 0, 1) := by decide +kernel
theorem dX11_readStep_219 : decode cX11_readStep 219 = .ok (.invokevirtual 282, 3) := by decide +kernel
theorem dX11_readStep_222 : decode cX11_readStep 222 = .ok (.goto (-20), 3) := by decide +kernel
theorem dX11_readStep_225 : decode cX11_readStep 225 = .ok (.aload_n 0, 1) := by decide +kernel
theorem dX11_readStep_226 : decode cX11_readStep 226 = .ok (.bipush 93, 2) := by decide +kernel
theorem dX11_readStep_228 : decode cX11_readStep 228 = .ok (.invokevirtual 206, 3) := by decide +kernel
theorem dX11_readStep_231 : decode cX11_readStep 231 = .ok (.aload_n 0, 1) := by decide +kernel
theorem dX11_readStep_232 : decode cX11_readStep 232 = .ok (.dup, 1) := by decide +kernel
theorem dX11_readStep_233 : decode cX11_readStep 233 = .ok (.getfield 143, 3) := by decide +kernel
theorem dX11_readStep_236 : decode cX11_readStep 236 = .ok (.iconst 1, 1) := by decide +kernel
theorem dX11_readStep_237 : decode cX11_readStep 237 = .ok (.isub, 1) := by decide +kernel
theorem dX11_readStep_238 : decode cX11_readStep 238 = .ok (.putfield 143, 3) := by decide +kernel
theorem dX11_readStep_241 : decode cX11_readStep 241 = .ok (.aload_n 0, 1) := by decide +kernel
theorem dX11_readStep_242 : decode cX11_readStep 242 = .ok (.invokevirtual 132, 3) := by decide +kernel
theorem dX11_readStep_245 : decode cX11_readStep 245 = .ok (.ifCond .eq 15, 3) := by decide +kernel
theorem dX11_readStep_248 : decode cX11_readStep 248 = .ok (.aload_n 0, 1) := by decide +kernel
theorem dX11_readStep_249 : decode cX11_readStep 249 = .ok (.getfield 50, 3) := by decide +kernel
theorem dX11_readStep_252 : decode cX11_readStep 252 = .ok (.iload_n 3, 1) := by decide +kernel
theorem dX11_readStep_253 : decode cX11_readStep 253 = .ok (.iconst 2, 1) := by decide +kernel
theorem dX11_readStep_254 : decode cX11_readStep 254 = .ok (.iadd, 1) := by decide +kernel
theorem dX11_readStep_255 : decode cX11_readStep 255 = .ok (.aload_n 0, 1) := by decide +kernel
theorem dX11_readStep_256 : decode cX11_readStep 256 = .ok (.getfield 266, 3) := by decide +kernel
theorem dX11_readStep_259 : decode cX11_readStep 259 = .ok (.iastore, 1) := by decide +kernel
theorem dX11_readStep_260 : decode cX11_readStep 260 = .ok (.goto 12, 3) := by decide +kernel
theorem dX11_readStep_263 : decode cX11_readStep 263 = .ok (.aload_n 0, 1) := by decide +kernel
theorem dX11_readStep_264 : decode cX11_readStep 264 = .ok (.iconst 1, 1) := by decide +kernel
theorem dX11_readStep_265 : decode cX11_readStep 265 = .ok (.aload_n 0, 1) := by decide +kernel
theorem dX11_readStep_266 : decode cX11_readStep 266 = .ok (.getfield 109, 3) := by decide +kernel
theorem dX11_readStep_269 : decode cX11_readStep 269 = .ok (.invokevirtual 139, 3) := by decide +kernel
theorem dX11_readStep_272 : decode cX11_readStep 272 = .ok (.aload_n 0, 1) := by decide +kernel
theorem dX11_readStep_273 : decode cX11_readStep 273 = .ok (.bipush 59, 2) := by decide +kernel
theorem dX11_readStep_275 : decode cX11_readStep 275 = .ok (.invokevirtual 206, 3) := by decide +kernel
theorem dX11_readStep_278 : decode cX11_readStep 278 = .ok (.return_, 1) := by decide +kernel
theorem dX11_work_0 : decode cX11_work 0 = .ok (.aload_n 0, 1) := by decide +kernel
theorem dX11_work_1 : decode cX11_work 1 = .ok (.iconst 0, 1) := by decide +kernel
theorem dX11_work_2 : decode cX11_work 2 = .ok (.putfield 3, 3) := by decide +kernel
theorem dX11_work_5 : decode cX11_work 5 = .ok (.aload_n 0, 1) := by decide +kernel
theorem dX11_work_6 : decode cX11_work 6 = .ok (.iload_n 1, 1) := by decide +kernel
theorem dX11_work_7 : decode cX11_work 7 = .ok (.ifCond .lt 22, 3) := by decide +kernel
theorem dX11_work_10 : decode cX11_work 10 = .ok (.iload_n 1, 1) := by decide +kernel
theorem dX11_work_11 : decode cX11_work 11 = .ok (.aload_n 0, 1) := by decide +kernel
theorem dX11_work_12 : decode cX11_work 12 = .ok (.getfield 100, 3) := by decide +kernel
theorem dX11_work_15 : decode cX11_work 15 = .ok (.if_icmp .gt 14, 3) := by decide +kernel
theorem dX11_work_18 : decode cX11_work 18 = .ok (.iload_n 1, 1) := by decide +kernel
theorem dX11_work_19 : decode cX11_work 19 = .ok (.sipush 150, 3) := by decide +kernel
theorem dX11_work_22 : decode cX11_work 22 = .ok (.if_icmp .gt 7, 3) := by decide +kernel
theorem dX11_work_25 : decode cX11_work 25 = .ok (.iconst 1, 1) := by decide +kernel
theorem dX11_work_26 : decode cX11_work 26 = .ok (.goto 4, 3) := by decide +kernel
theorem dX11_work_29 : decode cX11_work 29 = .ok (.iconst 0, 1) := by decide +kernel
theorem dX11_work_30 : decode cX11_work 30 = .ok (.iconst 1, 1) := by decide +kernel
theorem dX11_work_31 : decode cX11_work 31 = .ok (.iconst 1, 1) := by decide +kernel
theorem dX11_work_32 : decode cX11_work 32 = .ok (.invokevirtual 185, 3) := by decide +kernel
theorem dX11_work_35 : decode cX11_work 35 = .ok (.ifCond .ne 5, 3) := by decide +kernel
theorem dX11_work_38 : decode cX11_work 38 = .ok (.iconst 0, 1) := by decide +kernel
theorem dX11_work_39 : decode cX11_work 39 = .ok (.ireturn, 1) := by decide +kernel
theorem dX11_work_40 : decode cX11_work 40 = .ok (.aload_n 0, 1) := by decide +kernel
theorem dX11_work_41 : decode cX11_work 41 = .ok (.iload_n 1, 1) := by decide +kernel
theorem dX11_work_42 : decode cX11_work 42 = .ok (.invokevirtual 189, 3) := by decide +kernel
theorem dX11_work_45 : decode cX11_work 45 = .ok (.aload_n 0, 1) := by decide +kernel
theorem dX11_work_46 : decode cX11_work 46 = .ok (.getfield 164, 3) := by decide +kernel
theorem dX11_work_49 : decode cX11_work 49 = .ok (.bipush 16, 2) := by decide +kernel
theorem dX11_work_51 : decode cX11_work 51 = .ok (.if_icmp .ne 12, 3) := by decide +kernel
theorem dX11_work_54 : decode cX11_work 54 = .ok (.aload_n 0, 1) := by decide +kernel
theorem dX11_work_55 : decode cX11_work 55 = .ok (.iconst 0, 1) := by decide +kernel
theorem dX11_work_56 : decode cX11_work 56 = .ok (.invokevirtual 209, 3) := by decide +kernel
theorem dX11_work_59 : decode cX11_work 59 = .ok (.pop, 1) := by decide +kernel
theorem dX11_work_60 : decode cX11_work 60 = .ok (.bipush (-20), 2) := by decide +kernel
theorem dX11_work_62 : decode cX11_work 62 = .ok (.ireturn, 1) := by decide +kernel
theorem dX11_work_63 : decode cX11_work 63 = .ok (.aload_n 0, 1) := by decide +kernel
theorem dX11_work_64 : decode cX11_work 64 = .ok (.iconst 0, 1) := by decide +kernel
theorem dX11_work_65 : decode cX11_work 65 = .ok (.putfield 266, 3) := by decide +kernel
theorem dX11_work_68 : decode cX11_work 68 = .ok (.aload_n 0, 1) := by decide +kernel
theorem dX11_work_69 : decode cX11_work 69 = .ok (.invokevirtual 132, 3) := by decide +kernel
theorem dX11_work_72 : decode cX11_work 72 = .ok (.ifCond .eq 17, 3) := by decide +kernel
theorem dX11_work_75 : decode cX11_work 75 = .ok (.aload_n 0, 1) := by decide +kernel
theorem dX11_work_76 : decode cX11_work 76 = .ok (.invokevirtual 193, 3) := by decide +kernel
theorem dX11_work_79 : decode cX11_work 79 = .ok (.ifCond .eq 10, 3) := by decide +kernel
theorem dX11_work_82 : decode cX11_work 82 = .ok (.aload_n 0, 1) := by decide +kernel
theorem dX11_work_83 : decode cX11_work 83 = .ok (.invokevirtual 282, 3) := by decide +kernel
theorem dX11_work_86 : decode cX11_work 86 = .ok (.goto (-18), 3) := by decide +kernel
theorem dX11_work_89 : decode cX11_work 89 = .ok (.aload_n 0, 1) := by decide +kernel
theorem dX11_work_90 : decode cX11_work 90 = .ok (.iconst 0, 1) := by decide +kernel
theorem dX11_work_91 : decode cX11_work 91 = .ok (.invokevirtual 209, 3) := by decide +kernel
theorem dX11_work_94 : decode cX11_work 94 = .ok (.istore_n 2, 1) := by decide +kernel
theorem dX11_work_95 : decode cX11_work 95 = .ok (.aload_n 0, 1) := by decide +kernel
theorem dX11_work_96 : decode cX11_work 96 = .ok (.getfield 103, 3) := by decide +kernel
theorem dX11_work_99 : decode cX11_work 99 = .ok (.iconst (-1), 1) := by decide +kernel
theorem dX11_work_100 : decode cX11_work 100 = .ok (.if_icmp .eq 5, 3) := by decide +kernel
theorem dX11_work_103 : decode cX11_work 103 = .ok (.iload_n 2, 1) := by decide +kernel
theorem dX11_work_104 : decode cX11_work 104 = .ok (.ireturn, 1) := by decide +kernel
theorem dX11_work_105 : decode cX11_work 105 = .ok (.aload_n 0, 1) := by decide +kernel
theorem dX11_work_106 : decode cX11_work 106 = .ok (.aload_n 0, 1) := by decide +kernel
theorem dX11_work_107 : decode cX11_work 107 = .ok (.getfield 50, 3) := by decide +kernel
theorem dX11_work_110 : decode cX11_work 110 = .ok (.aload_n 0, 1) := by decide +kernel
theorem dX11_work_111 : decode cX11_work 111 = .ok (.getfield 53, 3) := by decide +kernel
theorem dX11_work_114 : decode cX11_work 114 = .ok (.aload_n 0, 1) := by decide +kernel
theorem dX11_work_115 : decode cX11_work 115 = .ok (.getfield 266, 3) := by decide +kernel
theorem dX11_work_118 : decode cX11_work 118 = .ok (.invokevirtual 255, 3) := by decide +kernel
theorem dX11_work_121 : decode cX11_work 121 = .ok (.iconst 0, 1) := by decide +kernel
theorem dX11_work_122 : decode cX11_work 122 = .ok (.istore_n 3, 1) := by decide +kernel
theorem dX11_work_123 : decode cX11_work 123 = .ok (.iload_n 3, 1) := by decide +kernel
theorem dX11_work_124 : decode cX11_work 124 = .ok (.sipush 190, 3) := by decide +kernel
theorem dX11_work_127 : decode cX11_work 127 = .ok (.if_icmp .ge 30, 3) := by decide +kernel
theorem dX11_work_130 : decode cX11_work 130 = .ok (.aload_n 0, 1) := by decide +kernel
theorem dX11_work_131 : decode cX11_work 131 = .ok (.getfield 62, 3) := by decide +kernel
theorem dX11_work_134 : decode cX11_work 134 = .ok (.sipush 190, 3) := by decide +kernel
theorem dX11_work_137 : decode cX11_work 137 = .ok (.aload_n 0, 1) := by decide +kernel
theorem dX11_work_138 : decode cX11_work 138 = .ok (.getfield 164, 3) := by decide +kernel
theorem dX11_work_141 : decode cX11_work 141 = .ok (.imul, 1) := by decide +kernel
theorem dX11_work_142 : decode cX11_work 142 = .ok (.iload_n 3, 1) := by decide +kernel
theorem dX11_work_143 : decode cX11_work 143 = .ok (.iadd, 1) := by decide +kernel
theorem dX11_work_144 : decode cX11_work 144 = .ok (.aload_n 0, 1) := by decide +kernel
theorem dX11_work_145 : decode cX11_work 145 = .ok (.getfield 56, 3) := by decide +kernel
theorem dX11_work_148 : decode cX11_work 148 = .ok (.iload_n 3, 1) := by decide +kernel
theorem dX11_work_149 : decode cX11_work 149 = .ok (.iaload, 1) := by decide +kernel
theorem dX11_work_150 : decode cX11_work 150 = .ok (.iastore, 1) := by decide +kernel
theorem dX11_work_151 : decode cX11_work 151 = .ok (.iinc 3 1, 3) := by decide +kernel
theorem dX11_work_154 : decode cX11_work 154 = .ok (.goto (-31), 3) := by decide +kernel
theorem dX11_work_157 : decode cX11_work 157 = .ok (.aload_n 0, 1) := by decide +kernel
theorem dX11_work_158 : decode cX11_work 158 = .ok (.dup, 1) := by decide +kernel
theorem dX11_work_159 : decode cX11_work 159 = .ok (.getfield 164, 3) := by decide +kernel
theorem dX11_work_162 : decode cX11_work 162 = .ok (.iconst 1, 1) := by decide +kernel
theorem dX11_work_163 : decode cX11_work 163 = .ok (.iadd, 1) := by decide +kernel
theorem dX11_work_164 : decode cX11_work 164 = .ok (.putfield 164, 3) := by decide +kernel
theorem dX11_work_167 : decode cX11_work 167 = .ok (.aload_n 0, 1) := by decide +kernel
theorem dX11_work_168 : decode cX11_work 168 = .ok (.invokevirtual 285, 3) := by decide +kernel
theorem dX11_work_171 : decode cX11_work 171 = .ok (.aload_n 0, 1) := by decide +kernel
theorem dX11_work_172 : decode cX11_work 172 = .ok (.iconst 0, 1) := by decide +kernel
theorem dX11_work_173 : decode cX11_work 173 = .ok (.putfield 288, 3) := by decide +kernel
theorem dX11_work_176 : decode cX11_work 176 = .ok (.aload_n 0, 1) := by decide +kernel
theorem dX11_work_177 : decode cX11_work 177 = .ok (.iconst 0, 1) := by decide +kernel
theorem dX11_work_178 : decode cX11_work 178 = .ok (.putfield 291, 3) := by decide +kernel
theorem dX11_work_181 : decode cX11_work 181 = .ok (.aload_n 0, 1) := by decide +kernel
theorem dX11_work_182 : decode cX11_work 182 = .ok (.iconst 0, 1) := by decide +kernel
theorem dX11_work_183 : decode cX11_work 183 = .ok (.putfield 294, 3) := by decide +kernel
theorem dX11_work_186 : decode cX11_work 186 = .ok (.aload_n 0, 1) := by decide +kernel
theorem dX11_work_187 : decode cX11_work 187 = .ok (.iconst 0, 1) := by decide +kernel
theorem dX11_work_188 : decode cX11_work 188 = .ok (.aload_n 0, 1) := by decide +kernel
theorem dX11_work_189 : decode cX11_work 189 = .ok (.getfield 266, 3) := by decide +kernel
theorem dX11_work_192 : decode cX11_work 192 = .ok (.invokevirtual 297, 3) := by decide +kernel
theorem dX11_work_195 : decode cX11_work 195 = .ok (.aload_n 0, 1) := by decide +kernel
theorem dX11_work_196 : decode cX11_work 196 = .ok (.aload_n 0, 1) := by decide +kernel
theorem dX11_work_197 : decode cX11_work 197 = .ok (.getfield 59, 3) := by decide +kernel
theorem dX11_work_200 : decode cX11_work 200 = .ok (.aload_n 0, 1) := by decide +kernel
theorem dX11_work_201 : decode cX11_work 201 = .ok (.getfield 56, 3) := by decide +kernel
theorem dX11_work_204 : decode cX11_work 204 = .ok (.sipush 190, 3) := by decide +kernel
theorem dX11_work_207 : decode cX11_work 207 = .ok (.invokevirtual 255, 3) := by decide +kernel
theorem dX11_work_210 : decode cX11_work 210 = .ok (.aload_n 0, 1) := by decide +kernel
theorem dX11_work_211 : decode cX11_work 211 = .ok (.aload_n 0, 1) := by decide +kernel
theorem dX11_work_212 : decode cX11_work 212 = .ok (.getfield 294, 3) := by decide +kernel
theorem dX11_work_215 : decode cX11_work 215 = .ok (.putfield 170, 3) := by decide +kernel
theorem dX11_work_218 : decode cX11_work 218 = .ok (.aload_n 0, 1) := by decide +kernel
theorem dX11_work_219 : decode cX11_work 219 = .ok (.getfield 291, 3) := by decide +kernel
theorem dX11_work_222 : decode cX11_work 222 = .ok (.ireturn, 1) := by decide +kernel
theorem dX11_goesSteps_0 : decode cX11_goesSteps 0 = .ok (.iload_n 1, 1) := by decide +kernel
theorem dX11_goesSteps_1 : decode cX11_goesSteps 1 = .ok (.istore_n 3, 1) := by decide +kernel
theorem dX11_goesSteps_2 : decode cX11_goesSteps 2 = .ok (.iload_n 3, 1) := by decide +kernel
theorem dX11_goesSteps_3 : decode cX11_goesSteps 3 = .ok (.iload_n 2, 1) := by decide +kernel
theorem dX11_goesSteps_4 : decode cX11_goesSteps 4 = .ok (.if_icmp .ge 156, 3) := by decide +kernel
theorem dX11_goesSteps_7 : decode cX11_goesSteps 7 = .ok (.aload_n 0, 1) := by decide +kernel
theorem dX11_goesSteps_8 : decode cX11_goesSteps 8 = .ok (.getfield 288, 3) := by decide +kernel
theorem dX11_goesSteps_11 : decode cX11_goesSteps 11 = .ok (.sipush 200, 3) := by decide +kernel
theorem dX11_goesSteps_14 : decode cX11_goesSteps 14 = .ok (.if_icmp .ge 146, 3) := by decide +kernel
theorem dX11_goesSteps_17 : decode cX11_goesSteps 17 = .ok (.aload_n 0, 1) := by decide +kernel
theorem dX11_goesSteps_18 : decode cX11_goesSteps 18 = .ok (.dup, 1) := by decide +kernel
theorem dX11_goesSteps_19 : decode cX11_goesSteps 19 = .ok (.getfield 288, 3) := by decide +kernel
theorem dX11_goesSteps_22 : decode cX11_goesSteps 22 = .ok (.iconst 1, 1) := by decide +kernel
theorem dX11_goesSteps_23 : decode cX11_goesSteps 23 = .ok (.iadd, 1) := by decide +kernel
theorem dX11_goesSteps_24 : decode cX11_goesSteps 24 = .ok (.putfield 288, 3) := by decide +kernel
theorem dX11_goesSteps_27 : decode cX11_goesSteps 27 = .ok (.aload_n 0, 1) := by decide +kernel
theorem dX11_goesSteps_28 : decode cX11_goesSteps 28 = .ok (.getfield 53, 3) := by decide +kernel
theorem dX11_goesSteps_31 : decode cX11_goesSteps 31 = .ok (.iload_n 3, 1) := by decide +kernel
theorem dX11_goesSteps_32 : decode cX11_goesSteps 32 = .ok (.iaload, 1) := by decide +kernel
theorem dX11_goesSteps_33 : decode cX11_goesSteps 33 = .ok (.iconst 4, 1) := by decide +kernel
theorem dX11_goesSteps_34 : decode cX11_goesSteps 34 = .ok (.if_icmp .ne 60, 3) := by decide +kernel
theorem dX11_goesSteps_37 : decode cX11_goesSteps 37 = .ok (.aload_n 0, 1) := by decide +kernel
theorem dX11_goesSteps_38 : decode cX11_goesSteps 38 = .ok (.getfield 53, 3) := by decide +kernel
theorem dX11_goesSteps_41 : decode cX11_goesSteps 41 = .ok (.iload_n 3, 1) := by decide +kernel
theorem dX11_goesSteps_42 : decode cX11_goesSteps 42 = .ok (.iconst 2, 1) := by decide +kernel
theorem dX11_goesSteps_43 : decode cX11_goesSteps 43 = .ok (.iadd, 1) := by decide +kernel
theorem dX11_goesSteps_44 : decode cX11_goesSteps 44 = .ok (.iaload, 1) := by decide +kernel
theorem dX11_goesSteps_45 : decode cX11_goesSteps 45 = .ok (.istore 4, 2) := by decide +kernel
theorem dX11_goesSteps_47 : decode cX11_goesSteps 47 = .ok (.iconst 0, 1) := by decide +kernel
theorem dX11_goesSteps_48 : decode cX11_goesSteps 48 = .ok (.istore 5, 2) := by decide +kernel
theorem dX11_goesSteps_50 : decode cX11_goesSteps 50 = .ok (.iload 5, 2) := by decide +kernel
theorem dX11_goesSteps_52 : decode cX11_goesSteps 52 = .ok (.aload_n 0, 1) := by decide +kernel
theorem dX11_goesSteps_53 : decode cX11_goesSteps 53 = .ok (.getfield 53, 3) := by decide +kernel
theorem dX11_goesSteps_56 : decode cX11_goesSteps 56 = .ok (.iload_n 3, 1) := by decide +kernel
theorem dX11_goesSteps_57 : decode cX11_goesSteps 57 = .ok (.iconst 1, 1) := by decide +kernel
theorem dX11_goesSteps_58 : decode cX11_goesSteps 58 = .ok (.iadd, 1) := by decide +kernel
theorem dX11_goesSteps_59 : decode cX11_goesSteps 59 = .ok (.iaload, 1) := by decide +kernel
theorem dX11_goesSteps_60 : decode cX11_goesSteps 60 = .ok (.if_icmp .ge 28, 3) := by decide +kernel
theorem dX11_goesSteps_63 : decode cX11_goesSteps 63 = .ok (.aload_n 0, 1) := by decide +kernel
theorem dX11_goesSteps_64 : decode cX11_goesSteps 64 = .ok (.getfield 288, 3) := by decide +kernel
theorem dX11_goesSteps_67 : decode cX11_goesSteps 67 = .ok (.sipush 200, 3) := by decide +kernel
theorem dX11_goesSteps_70 : decode cX11_goesSteps 70 = .ok (.if_icmp .ge 18, 3) := by decide +kernel
theorem dX11_goesSteps_73 : decode cX11_goesSteps 73 = .ok (.aload_n 0, 1) := by decide +kernel
theorem dX11_goesSteps_74 : decode cX11_goesSteps 74 = .ok (.iload_n 3, 1) := by decide +kernel
theorem dX11_goesSteps_75 : decode cX11_goesSteps 75 = .ok (.iconst 4, 1) := by decide +kernel
theorem dX11_goesSteps_76 : decode cX11_goesSteps 76 = .ok (.iadd, 1) := by decide +kernel
theorem dX11_goesSteps_77 : decode cX11_goesSteps 77 = .ok (.iload 4, 2) := by decide +kernel
theorem dX11_goesSteps_79 : decode cX11_goesSteps 79 = .ok (.invokevirtual 297, 3) := by decide +kernel
theorem dX11_goesSteps_82 : decode cX11_goesSteps 82 = .ok (.iinc 5 1, 3) := by decide +kernel
theorem dX11_goesSteps_85 : decode cX11_goesSteps 85 = .ok (.goto (-35), 3) := by decide +kernel
theorem dX11_goesSteps_88 : decode cX11_goesSteps 88 = .ok (.iload 4, 2) := by decide +kernel
theorem dX11_goesSteps_90 : decode cX11_goesSteps 90 = .ok (.istore_n 3, 1) := by decide +kernel
theorem dX11_goesSteps_91 : decode cX11_goesSteps 91 = .ok (.goto (-89), 3) := by decide +kernel
theorem dX11_goesSteps_94 : decode cX11_goesSteps 94 = .ok (.aload_n 0, 1) := by decide +kernel
theorem dX11_goesSteps_95 : decode cX11_goesSteps 95 = .ok (.aload_n 0, 1) := by decide +kernel
theorem dX11_goesSteps_96 : decode cX11_goesSteps 96 = .ok (.getfield 53, 3) := by decide +kernel
theorem dX11_goesSteps_99 : decode cX11_goesSteps 99 = .ok (.iload_n 3, 1) := by decide +kernel
theorem dX11_goesSteps_100 : decode cX11_goesSteps 100 = .ok (.iaload, 1) := by decide +kernel
theorem dX11_goesSteps_101 : decode cX11_goesSteps 101 = .ok (.aload_n 0, 1) := by decide +kernel
theorem dX11_goesSteps_102 : decode cX11_goesSteps 102 = .ok (.getfield 53, 3) := by decide +kernel
theorem dX11_goesSteps_105 : decode cX11_goesSteps 105 = .ok (.iload_n 3, 1) := by decide +kernel
theorem dX11_goesSteps_106 : decode cX11_goesSteps 106 = .ok (.iconst 1, 1) := by decide +kernel
theorem dX11_goesSteps_107 : decode cX11_goesSteps 107 = .ok (.iadd, 1) := by decide +kernel
theorem dX11_goesSteps_108 : decode cX11_goesSteps 108 = .ok (.iaload, 1) := by decide +kernel
theorem dX11_goesSteps_109 : decode cX11_goesSteps 109 = .ok (.aload_n 0, 1) := by decide +kernel
theorem dX11_goesSteps_110 : decode cX11_goesSteps 110 = .ok (.getfield 53, 3) := by decide +kernel
theorem dX11_goesSteps_113 : decode cX11_goesSteps 113 = .ok (.iload_n 3, 1) := by decide +kernel
theorem dX11_goesSteps_114 : decode cX11_goesSteps 114 = .ok (.iconst 2, 1) := by decide +kernel
theorem dX11_goesSteps_115 : decode cX11_goesSteps 115 = .ok (.iadd, 1) := by decide +kernel
theorem dX11_goesSteps_116 : decode cX11_goesSteps 116 = .ok (.iaload, 1) := by decide +kernel
theorem dX11_goesSteps_117 : decode cX11_goesSteps 117 = .ok (.aload_n 0, 1) := by decide +kernel
theorem dX11_goesSteps_118 : decode cX11_goesSteps 118 = .ok (.getfield 53, 3) := by decide +kernel
theorem dX11_goesSteps_121 : decode cX11_goesSteps 121 = .ok (.iload_n 3, 1) := by decide +kernel
theorem dX11_goesSteps_122 : decode cX11_goesSteps 122 = .ok (.iconst 3, 1) := by decide +kernel
theorem dX11_goesSteps_123 : decode cX11_goesSteps 123 = .ok (.iadd, 1) := by decide +kernel
theorem dX11_goesSteps_124 : decode cX11_goesSteps 124 = .ok (.iaload, 1) := by decide +kernel
theorem dX11_goesSteps_125 : decode cX11_goesSteps 125 = .ok (.invokevirtual 300, 3) := by decide +kernel
theorem dX11_goesSteps_128 : decode cX11_goesSteps 128 = .ok (.ifCond .eq 16, 3) := by decide +kernel
theorem dX11_goesSteps_131 : decode cX11_goesSteps 131 = .ok (.aload_n 0, 1) := by decide +kernel
theorem dX11_goesSteps_132 : decode cX11_goesSteps 132 = .ok (.dup, 1) := by decide +kernel
theorem dX11_goesSteps_133 : decode cX11_goesSteps 133 = .ok (.getfield 291, 3) := by decide +kernel
theorem dX11_goesSteps_136 : decode cX11_goesSteps 136 = .ok (.iconst 1, 1) := by decide +kernel
theorem dX11_goesSteps_137 : decode cX11_goesSteps 137 = .ok (.iadd, 1) := by decide +kernel
theorem dX11_goesSteps_138 : decode cX11_goesSteps 138 = .ok (.putfield 291, 3) := by decide +kernel
theorem dX11_goesSteps_141 : decode cX11_goesSteps 141 = .ok (.goto 13, 3) := by decide +kernel
theorem dX11_goesSteps_144 : decode cX11_goesSteps 144 = .ok (.aload_n 0, 1) := by decide +kernel
theorem dX11_goesSteps_145 : decode cX11_goesSteps 145 = .ok (.dup, 1) := by decide +kernel
theorem dX11_goesSteps_146 : decode cX11_goesSteps 146 = .ok (.getfield 294, 3) := by decide +kernel
theorem dX11_goesSteps_149 : decode cX11_goesSteps 149 = .ok (.iconst 1, 1) := by decide +kernel
theorem dX11_goesSteps_150 : decode cX11_goesSteps 150 = .ok (.iadd, 1) := by decide +kernel
theorem dX11_goesSteps_151 : decode cX11_goesSteps 151 = .ok (.putfield 294, 3) := by decide +kernel
theorem dX11_goesSteps_154 : decode cX11_goesSteps 154 = .ok (.iinc 3 4, 3) := by decide +kernel
theorem dX11_goesSteps_157 : decode cX11_goesSteps 157 = .ok (.goto (-155), 3) := by decide +kernel
theorem dX11_goesSteps_160 : decode cX11_goesSteps 160 = .ok (.return_, 1) := by decide +kernel
theorem dX11_take_0 : decode cX11_take 0 = .ok (.aload_n 0, 1) := by decide +kernel
theorem dX11_take_1 : decode cX11_take 1 = .ok (.aload_n 0, 1) := by decide +kernel
theorem dX11_take_2 : decode cX11_take 2 = .ok (.getfield 56, 3) := by decide +kernel
theorem dX11_take_5 : decode cX11_take 5 = .ok (.aload_n 0, 1) := by decide +kernel
theorem dX11_take_6 : decode cX11_take 6 = .ok (.getfield 59, 3) := by decide +kernel
theorem dX11_take_9 : decode cX11_take 9 = .ok (.sipush 190, 3) := by decide +kernel
theorem dX11_take_12 : decode cX11_take 12 = .ok (.invokevirtual 255, 3) := by decide +kernel
theorem dX11_take_15 : decode cX11_take 15 = .ok (.return_, 1) := by decide +kernel
theorem dX11_partsOf_0 : decode cX11_partsOf 0 = .ok (.iconst 0, 1) := by decide +kernel
theorem dX11_partsOf_1 : decode cX11_partsOf 1 = .ok (.istore_n 1, 1) := by decide +kernel
theorem dX11_partsOf_2 : decode cX11_partsOf 2 = .ok (.iconst 1, 1) := by decide +kernel
theorem dX11_partsOf_3 : decode cX11_partsOf 3 = .ok (.istore_n 2, 1) := by decide +kernel
theorem dX11_partsOf_4 : decode cX11_partsOf 4 = .ok (.iload_n 2, 1) := by decide +kernel
theorem dX11_partsOf_5 : decode cX11_partsOf 5 = .ok (.iload_n 0, 1) := by decide +kernel
theorem dX11_partsOf_6 : decode cX11_partsOf 6 = .ok (.if_icmp .gt 23, 3) := by decide +kernel
theorem dX11_partsOf_9 : decode cX11_partsOf 9 = .ok (.iload_n 1, 1) := by decide +kernel
theorem dX11_partsOf_10 : decode cX11_partsOf 10 = .ok (.iload_n 0, 1) := by decide +kernel
theorem dX11_partsOf_11 : decode cX11_partsOf 11 = .ok (.iload_n 2, 1) := by decide +kernel
theorem dX11_partsOf_12 : decode cX11_partsOf 12 = .ok (.irem, 1) := by decide +kernel
theorem dX11_partsOf_13 : decode cX11_partsOf 13 = .ok (.ifCond .ne 7, 3) := by decide +kernel
theorem dX11_partsOf_16 : decode cX11_partsOf 16 = .ok (.iconst 1, 1) := by decide +kernel
theorem dX11_partsOf_17 : decode cX11_partsOf 17 = .ok (.goto 4, 3) := by decide +kernel
theorem dX11_partsOf_20 : decode cX11_partsOf 20 = .ok (.iconst 0, 1) := by decide +kernel
theorem dX11_partsOf_21 : decode cX11_partsOf 21 = .ok (.iadd, 1) := by decide +kernel
theorem dX11_partsOf_22 : decode cX11_partsOf 22 = .ok (.istore_n 1, 1) := by decide +kernel
theorem dX11_partsOf_23 : decode cX11_partsOf 23 = .ok (.iinc 2 1, 3) := by decide +kernel
theorem dX11_partsOf_26 : decode cX11_partsOf 26 = .ok (.goto (-22), 3) := by decide +kernel
theorem dX11_partsOf_29 : decode cX11_partsOf 29 = .ok (.iload_n 1, 1) := by decide +kernel
theorem dX11_partsOf_30 : decode cX11_partsOf 30 = .ok (.ireturn, 1) := by decide +kernel
theorem dX11_fareOf_0 : decode cX11_fareOf 0 = .ok (.aload_n 0, 1) := by decide +kernel
theorem dX11_fareOf_1 : decode cX11_fareOf 1 = .ok (.getfield 47, 3) := by decide +kernel
theorem dX11_fareOf_4 : decode cX11_fareOf 4 = .ok (.iconst 0, 1) := by decide +kernel
theorem dX11_fareOf_5 : decode cX11_fareOf 5 = .ok (.iload_n 1, 1) := by decide +kernel
theorem dX11_fareOf_6 : decode cX11_fareOf 6 = .ok (.iastore, 1) := by decide +kernel
theorem dX11_fareOf_7 : decode cX11_fareOf 7 = .ok (.aload_n 0, 1) := by decide +kernel
theorem dX11_fareOf_8 : decode cX11_fareOf 8 = .ok (.getfield 47, 3) := by decide +kernel
theorem dX11_fareOf_11 : decode cX11_fareOf 11 = .ok (.iconst 1, 1) := by decide +kernel
theorem dX11_fareOf_12 : decode cX11_fareOf 12 = .ok (.iload_n 2, 1) := by decide +kernel
theorem dX11_fareOf_13 : decode cX11_fareOf 13 = .ok (.iastore, 1) := by decide +kernel
theorem dX11_fareOf_14 : decode cX11_fareOf 14 = .ok (.aload_n 0, 1) := by decide +kernel
theorem dX11_fareOf_15 : decode cX11_fareOf 15 = .ok (.getfield 47, 3) := by decide +kernel
theorem dX11_fareOf_18 : decode cX11_fareOf 18 = .ok (.iconst 2, 1) := by decide +kernel
theorem dX11_fareOf_19 : decode cX11_fareOf 19 = .ok (.iload_n 3, 1) := by decide +kernel
theorem dX11_fareOf_20 : decode cX11_fareOf 20 = .ok (.iastore, 1) := by decide +kernel
theorem dX11_fareOf_21 : decode cX11_fareOf 21 = .ok (.aload_n 0, 1) := by decide +kernel
theorem dX11_fareOf_22 : decode cX11_fareOf 22 = .ok (.getfield 47, 3) := by decide +kernel
theorem dX11_fareOf_25 : decode cX11_fareOf 25 = .ok (.iconst 3, 1) := by decide +kernel
theorem dX11_fareOf_26 : decode cX11_fareOf 26 = .ok (.iload 4, 2) := by decide +kernel
theorem dX11_fareOf_28 : decode cX11_fareOf 28 = .ok (.iastore, 1) := by decide +kernel
theorem dX11_fareOf_29 : decode cX11_fareOf 29 = .ok (.aload_n 0, 1) := by decide +kernel
theorem dX11_fareOf_30 : decode cX11_fareOf 30 = .ok (.getfield 47, 3) := by decide +kernel
theorem dX11_fareOf_33 : decode cX11_fareOf 33 = .ok (.iconst 4, 1) := by decide +kernel
theorem dX11_fareOf_34 : decode cX11_fareOf 34 = .ok (.iload_n 1, 1) := by decide +kernel
theorem dX11_fareOf_35 : decode cX11_fareOf 35 = .ok (.invokestatic 304, 3) := by decide +kernel
theorem dX11_fareOf_38 : decode cX11_fareOf 38 = .ok (.iastore, 1) := by decide +kernel
theorem dX11_fareOf_39 : decode cX11_fareOf 39 = .ok (.aload_n 0, 1) := by decide +kernel
theorem dX11_fareOf_40 : decode cX11_fareOf 40 = .ok (.getfield 47, 3) := by decide +kernel
theorem dX11_fareOf_43 : decode cX11_fareOf 43 = .ok (.iconst 5, 1) := by decide +kernel
theorem dX11_fareOf_44 : decode cX11_fareOf 44 = .ok (.iload 5, 2) := by decide +kernel
theorem dX11_fareOf_46 : decode cX11_fareOf 46 = .ok (.iastore, 1) := by decide +kernel
theorem dX11_fareOf_47 : decode cX11_fareOf 47 = .ok (.aload_n 0, 1) := by decide +kernel
theorem dX11_fareOf_48 : decode cX11_fareOf 48 = .ok (.getfield 47, 3) := by decide +kernel
theorem dX11_fareOf_51 : decode cX11_fareOf 51 = .ok (.bipush 6, 2) := by decide +kernel
theorem dX11_fareOf_53 : decode cX11_fareOf 53 = .ok (.iload 6, 2) := by decide +kernel
theorem dX11_fareOf_55 : decode cX11_fareOf 55 = .ok (.iastore, 1) := by decide +kernel
theorem dX11_fareOf_56 : decode cX11_fareOf 56 = .ok (.aload_n 0, 1) := by decide +kernel
theorem dX11_fareOf_57 : decode cX11_fareOf 57 = .ok (.invokevirtual 307, 3) := by decide +kernel
theorem dX11_fareOf_60 : decode cX11_fareOf 60 = .ok (.ireturn, 1) := by decide +kernel
theorem dX11_fareBy_0 : decode cX11_fareBy 0 = .ok (.aload_n 0, 1) := by decide +kernel
theorem dX11_fareBy_1 : decode cX11_fareBy 1 = .ok (.getfield 59, 3) := by decide +kernel
theorem dX11_fareBy_4 : decode cX11_fareBy 4 = .ok (.iconst 0, 1) := by decide +kernel
theorem dX11_fareBy_5 : decode cX11_fareBy 5 = .ok (.iload_n 1, 1) := by decide +kernel
theorem dX11_fareBy_6 : decode cX11_fareBy 6 = .ok (.iadd, 1) := by decide +kernel
theorem dX11_fareBy_7 : decode cX11_fareBy 7 = .ok (.iaload, 1) := by decide +kernel
theorem dX11_fareBy_8 : decode cX11_fareBy 8 = .ok (.iconst (-1), 1) := by decide +kernel
theorem dX11_fareBy_9 : decode cX11_fareBy 9 = .ok (.if_icmp .ne 7, 3) := by decide +kernel
theorem dX11_fareBy_12 : decode cX11_fareBy 12 = .ok (.iconst 0, 1) := by decide +kernel
theorem dX11_fareBy_13 : decode cX11_fareBy 13 = .ok (.goto 43, 3) := by decide +kernel
theorem dX11_fareBy_16 : decode cX11_fareBy 16 = .ok (.aload_n 0, 1) := by decide +kernel
theorem dX11_fareBy_17 : decode cX11_fareBy 17 = .ok (.iload_n 1, 1) := by decide +kernel
theorem dX11_fareBy_18 : decode cX11_fareBy 18 = .ok (.aload_n 0, 1) := by decide +kernel
theorem dX11_fareBy_19 : decode cX11_fareBy 19 = .ok (.getfield 59, 3) := by decide +kernel
theorem dX11_fareBy_22 : decode cX11_fareBy 22 = .ok (.bipush 61, 2) := by decide +kernel
theorem dX11_fareBy_24 : decode cX11_fareBy 24 = .ok (.iload_n 1, 1) := by decide +kernel
theorem dX11_fareBy_25 : decode cX11_fareBy 25 = .ok (.iadd, 1) := by decide +kernel
theorem dX11_fareBy_26 : decode cX11_fareBy 26 = .ok (.iaload, 1) := by decide +kernel
theorem dX11_fareBy_27 : decode cX11_fareBy 27 = .ok (.iload_n 2, 1) := by decide +kernel
theorem dX11_fareBy_28 : decode cX11_fareBy 28 = .ok (.aload_n 0, 1) := by decide +kernel
theorem dX11_fareBy_29 : decode cX11_fareBy 29 = .ok (.getfield 59, 3) := by decide +kernel
theorem dX11_fareBy_32 : decode cX11_fareBy 32 = .ok (.iconst 0, 1) := by decide +kernel
theorem dX11_fareBy_33 : decode cX11_fareBy 33 = .ok (.iload_n 1, 1) := by decide +kernel
theorem dX11_fareBy_34 : decode cX11_fareBy 34 = .ok (.iadd, 1) := by decide +kernel
theorem dX11_fareBy_35 : decode cX11_fareBy 35 = .ok (.iaload, 1) := by decide +kernel
theorem dX11_fareBy_36 : decode cX11_fareBy 36 = .ok (.aload_n 0, 1) := by decide +kernel
theorem dX11_fareBy_37 : decode cX11_fareBy 37 = .ok (.getfield 59, 3) := by decide +kernel
theorem dX11_fareBy_40 : decode cX11_fareBy 40 = .ok (.bipush 122, 2) := by decide +kernel
theorem dX11_fareBy_42 : decode cX11_fareBy 42 = .ok (.iload_n 1, 1) := by decide +kernel
theorem dX11_fareBy_43 : decode cX11_fareBy 43 = .ok (.iadd, 1) := by decide +kernel
theorem dX11_fareBy_44 : decode cX11_fareBy 44 = .ok (.iaload, 1) := by decide +kernel
theorem dX11_fareBy_45 : decode cX11_fareBy 45 = .ok (.aload_n 0, 1) := by decide +kernel
theorem dX11_fareBy_46 : decode cX11_fareBy 46 = .ok (.getfield 59, 3) := by decide +kernel
theorem dX11_fareBy_49 : decode cX11_fareBy 49 = .ok (.sipush 189, 3) := by decide +kernel
theorem dX11_fareBy_52 : decode cX11_fareBy 52 = .ok (.iaload, 1) := by decide +kernel
theorem dX11_fareBy_53 : decode cX11_fareBy 53 = .ok (.invokevirtual 310, 3) := by decide +kernel
theorem dX11_fareBy_56 : decode cX11_fareBy 56 = .ok (.ireturn, 1) := by decide +kernel
theorem dX11_heldBy_0 : decode cX11_heldBy 0 = .ok (.iload_n 1, 1) := by decide +kernel
theorem dX11_heldBy_1 : decode cX11_heldBy 1 = .ok (.sipush 9999, 3) := by decide +kernel
theorem dX11_heldBy_4 : decode cX11_heldBy 4 = .ok (.if_icmp .le 9, 3) := by decide +kernel
theorem dX11_heldBy_7 : decode cX11_heldBy 7 = .ok (.sipush 9999, 3) := by decide +kernel
theorem dX11_heldBy_10 : decode cX11_heldBy 10 = .ok (.goto 4, 3) := by decide +kernel
theorem dX11_heldBy_13 : decode cX11_heldBy 13 = .ok (.iload_n 1, 1) := by decide +kernel
theorem dX11_heldBy_14 : decode cX11_heldBy 14 = .ok (.ireturn, 1) := by decide +kernel
theorem dX11_uses_0 : decode cX11_uses 0 = .ok (.aload_n 0, 1) := by decide +kernel
theorem dX11_uses_1 : decode cX11_uses 1 = .ok (.getfield 59, 3) := by decide +kernel
theorem dX11_uses_4 : decode cX11_uses 4 = .ok (.iconst 0, 1) := by decide +kernel
theorem dX11_uses_5 : decode cX11_uses 5 = .ok (.iload_n 2, 1) := by decide +kernel
theorem dX11_uses_6 : decode cX11_uses 6 = .ok (.iadd, 1) := by decide +kernel
theorem dX11_uses_7 : decode cX11_uses 7 = .ok (.iaload, 1) := by decide +kernel
theorem dX11_uses_8 : decode cX11_uses 8 = .ok (.istore 4, 2) := by decide +kernel
theorem dX11_uses_10 : decode cX11_uses 10 = .ok (.iload 4, 2) := by decide +kernel
theorem dX11_uses_12 : decode cX11_uses 12 = .ok (.iload_n 1, 1) := by decide +kernel
theorem dX11_uses_13 : decode cX11_uses 13 = .ok (.if_icmp .ne 7, 3) := by decide +kernel
theorem dX11_uses_16 : decode cX11_uses 16 = .ok (.iconst 0, 1) := by decide +kernel
theorem dX11_uses_17 : decode cX11_uses 17 = .ok (.goto 9, 3) := by decide +kernel
theorem dX11_uses_20 : decode cX11_uses 20 = .ok (.aload_n 0, 1) := by decide +kernel
theorem dX11_uses_21 : decode cX11_uses 21 = .ok (.iload_n 2, 1) := by decide +kernel
theorem dX11_uses_22 : decode cX11_uses 22 = .ok (.iload_n 3, 1) := by decide +kernel
theorem dX11_uses_23 : decode cX11_uses 23 = .ok (.invokevirtual 314, 3) := by decide +kernel
theorem dX11_uses_26 : decode cX11_uses 26 = .ok (.istore 5, 2) := by decide +kernel
theorem dX11_uses_28 : decode cX11_uses 28 = .ok (.aload_n 0, 1) := by decide +kernel
theorem dX11_uses_29 : decode cX11_uses 29 = .ok (.getfield 59, 3) := by decide +kernel
theorem dX11_uses_32 : decode cX11_uses 32 = .ok (.sipush 183, 3) := by decide +kernel
theorem dX11_uses_35 : decode cX11_uses 35 = .ok (.iload_n 1, 1) := by decide +kernel
theorem dX11_uses_36 : decode cX11_uses 36 = .ok (.iadd, 1) := by decide +kernel
theorem dX11_uses_37 : decode cX11_uses 37 = .ok (.iaload, 1) := by decide +kernel
theorem dX11_uses_38 : decode cX11_uses 38 = .ok (.iload 5, 2) := by decide +kernel
theorem dX11_uses_40 : decode cX11_uses 40 = .ok (.if_icmp .ge 5, 3) := by decide +kernel
theorem dX11_uses_43 : decode cX11_uses 43 = .ok (.iconst 0, 1) := by decide +kernel
theorem dX11_uses_44 : decode cX11_uses 44 = .ok (.ireturn, 1) := by decide +kernel
theorem dX11_uses_45 : decode cX11_uses 45 = .ok (.aload_n 0, 1) := by decide +kernel
theorem dX11_uses_46 : decode cX11_uses 46 = .ok (.getfield 59, 3) := by decide +kernel
theorem dX11_uses_49 : decode cX11_uses 49 = .ok (.sipush 183, 3) := by decide +kernel
theorem dX11_uses_52 : decode cX11_uses 52 = .ok (.iload_n 1, 1) := by decide +kernel
theorem dX11_uses_53 : decode cX11_uses 53 = .ok (.iadd, 1) := by decide +kernel
theorem dX11_uses_54 : decode cX11_uses 54 = .ok (.dup2, 1) := by decide +kernel
theorem dX11_uses_55 : decode cX11_uses 55 = .ok (.iaload, 1) := by decide +kernel
theorem dX11_uses_56 : decode cX11_uses 56 = .ok (.iload 5, 2) := by decide +kernel
theorem dX11_uses_58 : decode cX11_uses 58 = .ok (.isub, 1) := by decide +kernel
theorem dX11_uses_59 : decode cX11_uses 59 = .ok (.iastore, 1) := by decide +kernel
theorem dX11_uses_60 : decode cX11_uses 60 = .ok (.iload 4, 2) := by decide +kernel
theorem dX11_uses_62 : decode cX11_uses 62 = .ok (.iconst (-1), 1) := by decide +kernel
theorem dX11_uses_63 : decode cX11_uses 63 = .ok (.if_icmp .eq 32, 3) := by decide +kernel
theorem dX11_uses_66 : decode cX11_uses 66 = .ok (.aload_n 0, 1) := by decide +kernel
theorem dX11_uses_67 : decode cX11_uses 67 = .ok (.getfield 59, 3) := by decide +kernel
theorem dX11_uses_70 : decode cX11_uses 70 = .ok (.sipush 183, 3) := by decide +kernel
theorem dX11_uses_73 : decode cX11_uses 73 = .ok (.iload 4, 2) := by decide +kernel
theorem dX11_uses_75 : decode cX11_uses 75 = .ok (.iadd, 1) := by decide +kernel
theorem dX11_uses_76 : decode cX11_uses 76 = .ok (.aload_n 0, 1) := by decide +kernel
theorem dX11_uses_77 : decode cX11_uses 77 = .ok (.aload_n 0, 1) := by decide +kernel
theorem dX11_uses_78 : decode cX11_uses 78 = .ok (.getfield 59, 3) := by decide +kernel
theorem dX11_uses_81 : decode cX11_uses 81 = .ok (.sipush 183, 3) := by decide +kernel
theorem dX11_uses_84 : decode cX11_uses 84 = .ok (.iload 4, 2) := by decide +kernel
theorem dX11_uses_86 : decode cX11_uses 86 = .ok (.iadd, 1) := by decide +kernel
theorem dX11_uses_87 : decode cX11_uses 87 = .ok (.iaload, 1) := by decide +kernel
theorem dX11_uses_88 : decode cX11_uses 88 = .ok (.iload 5, 2) := by decide +kernel
theorem dX11_uses_90 : decode cX11_uses 90 = .ok (.iadd, 1) := by decide +kernel
theorem dX11_uses_91 : decode cX11_uses 91 = .ok (.invokevirtual 317, 3) := by decide +kernel
theorem dX11_uses_94 : decode cX11_uses 94 = .ok (.iastore, 1) := by decide +kernel
theorem dX11_uses_95 : decode cX11_uses 95 = .ok (.aload_n 0, 1) := by decide +kernel
theorem dX11_uses_96 : decode cX11_uses 96 = .ok (.getfield 59, 3) := by decide +kernel
theorem dX11_uses_99 : decode cX11_uses 99 = .ok (.bipush 122, 2) := by decide +kernel
theorem dX11_uses_101 : decode cX11_uses 101 = .ok (.iload_n 2, 1) := by decide +kernel
theorem dX11_uses_102 : decode cX11_uses 102 = .ok (.iadd, 1) := by decide +kernel
theorem dX11_uses_103 : decode cX11_uses 103 = .ok (.dup2, 1) := by decide +kernel
theorem dX11_uses_104 : decode cX11_uses 104 = .ok (.iaload, 1) := by decide +kernel
theorem dX11_uses_105 : decode cX11_uses 105 = .ok (.iconst 1, 1) := by decide +kernel
theorem dX11_uses_106 : decode cX11_uses 106 = .ok (.iadd, 1) := by decide +kernel
theorem dX11_uses_107 : decode cX11_uses 107 = .ok (.iastore, 1) := by decide +kernel
theorem dX11_uses_108 : decode cX11_uses 108 = .ok (.iconst 1, 1) := by decide +kernel
theorem dX11_uses_109 : decode cX11_uses 109 = .ok (.ireturn, 1) := by decide +kernel
theorem dX11_sells_0 : decode cX11_sells 0 = .ok (.aload_n 0, 1) := by decide +kernel
theorem dX11_sells_1 : decode cX11_sells 1 = .ok (.getfield 59, 3) := by decide +kernel
theorem dX11_sells_4 : decode cX11_sells 4 = .ok (.iconst 0, 1) := by decide +kernel
theorem dX11_sells_5 : decode cX11_sells 5 = .ok (.iload_n 2, 1) := by decide +kernel
theorem dX11_sells_6 : decode cX11_sells 6 = .ok (.iadd, 1) := by decide +kernel
theorem dX11_sells_7 : decode cX11_sells 7 = .ok (.iaload, 1) := by decide +kernel
theorem dX11_sells_8 : decode cX11_sells 8 = .ok (.istore 4, 2) := by decide +kernel
theorem dX11_sells_10 : decode cX11_sells 10 = .ok (.iload 4, 2) := by decide +kernel
theorem dX11_sells_12 : decode cX11_sells 12 = .ok (.iload_n 1, 1) := by decide +kernel
theorem dX11_sells_13 : decode cX11_sells 13 = .ok (.if_icmp .eq 17, 3) := by decide +kernel
theorem dX11_sells_16 : decode cX11_sells 16 = .ok (.aload_n 0, 1) := by decide +kernel
theorem dX11_sells_17 : decode cX11_sells 17 = .ok (.getfield 59, 3) := by decide +kernel
theorem dX11_sells_20 : decode cX11_sells 20 = .ok (.sipush 183, 3) := by decide +kernel
theorem dX11_sells_23 : decode cX11_sells 23 = .ok (.iload_n 1, 1) := by decide +kernel
theorem dX11_sells_24 : decode cX11_sells 24 = .ok (.iadd, 1) := by decide +kernel
theorem dX11_sells_25 : decode cX11_sells 25 = .ok (.iaload, 1) := by decide +kernel
theorem dX11_sells_26 : decode cX11_sells 26 = .ok (.iload_n 3, 1) := by decide +kernel
theorem dX11_sells_27 : decode cX11_sells 27 = .ok (.if_icmp .ge 5, 3) := by decide +kernel
theorem dX11_sells_30 : decode cX11_sells 30 = .ok (.iconst 0, 1) := by decide +kernel
theorem dX11_sells_31 : decode cX11_sells 31 = .ok (.ireturn, 1) := by decide +kernel
theorem dX11_sells_32 : decode cX11_sells 32 = .ok (.aload_n 0, 1) := by decide +kernel
theorem dX11_sells_33 : decode cX11_sells 33 = .ok (.getfield 59, 3) := by decide +kernel
theorem dX11_sells_36 : decode cX11_sells 36 = .ok (.sipush 183, 3) := by decide +kernel
theorem dX11_sells_39 : decode cX11_sells 39 = .ok (.iload_n 1, 1) := by decide +kernel
theorem dX11_sells_40 : decode cX11_sells 40 = .ok (.iadd, 1) := by decide +kernel
theorem dX11_sells_41 : decode cX11_sells 41 = .ok (.dup2, 1) := by decide +kernel
theorem dX11_sells_42 : decode cX11_sells 42 = .ok (.iaload, 1) := by decide +kernel
theorem dX11_sells_43 : decode cX11_sells 43 = .ok (.iload_n 3, 1) := by decide +kernel
theorem dX11_sells_44 : decode cX11_sells 44 = .ok (.isub, 1) := by decide +kernel
theorem dX11_sells_45 : decode cX11_sells 45 = .ok (.iastore, 1) := by decide +kernel
theorem dX11_sells_46 : decode cX11_sells 46 = .ok (.iload 4, 2) := by decide +kernel
theorem dX11_sells_48 : decode cX11_sells 48 = .ok (.iconst (-1), 1) := by decide +kernel
theorem dX11_sells_49 : decode cX11_sells 49 = .ok (.if_icmp .eq 31, 3) := by decide +kernel
theorem dX11_sells_52 : decode cX11_sells 52 = .ok (.aload_n 0, 1) := by decide +kernel
theorem dX11_sells_53 : decode cX11_sells 53 = .ok (.getfield 59, 3) := by decide +kernel
theorem dX11_sells_56 : decode cX11_sells 56 = .ok (.sipush 183, 3) := by decide +kernel
theorem dX11_sells_59 : decode cX11_sells 59 = .ok (.iload 4, 2) := by decide +kernel
theorem dX11_sells_61 : decode cX11_sells 61 = .ok (.iadd, 1) := by decide +kernel
theorem dX11_sells_62 : decode cX11_sells 62 = .ok (.aload_n 0, 1) := by decide +kernel
theorem dX11_sells_63 : decode cX11_sells 63 = .ok (.aload_n 0, 1) := by decide +kernel
theorem dX11_sells_64 : decode cX11_sells 64 = .ok (.getfield 59, 3) := by decide +kernel
theorem dX11_sells_67 : decode cX11_sells 67 = .ok (.sipush 183, 3) := by decide +kernel
theorem dX11_sells_70 : decode cX11_sells 70 = .ok (.iload 4, 2) := by decide +kernel
theorem dX11_sells_72 : decode cX11_sells 72 = .ok (.iadd, 1) := by decide +kernel
theorem dX11_sells_73 : decode cX11_sells 73 = .ok (.iaload, 1) := by decide +kernel
theorem dX11_sells_74 : decode cX11_sells 74 = .ok (.iload_n 3, 1) := by decide +kernel
theorem dX11_sells_75 : decode cX11_sells 75 = .ok (.iadd, 1) := by decide +kernel
theorem dX11_sells_76 : decode cX11_sells 76 = .ok (.invokevirtual 317, 3) := by decide +kernel
theorem dX11_sells_79 : decode cX11_sells 79 = .ok (.iastore, 1) := by decide +kernel
theorem dX11_sells_80 : decode cX11_sells 80 = .ok (.aload_n 0, 1) := by decide +kernel
theorem dX11_sells_81 : decode cX11_sells 81 = .ok (.getfield 59, 3) := by decide +kernel
theorem dX11_sells_84 : decode cX11_sells 84 = .ok (.iconst 0, 1) := by decide +kernel
theorem dX11_sells_85 : decode cX11_sells 85 = .ok (.iload_n 2, 1) := by decide +kernel
theorem dX11_sells_86 : decode cX11_sells 86 = .ok (.iadd, 1) := by decide +kernel
theorem dX11_sells_87 : decode cX11_sells 87 = .ok (.iload_n 1, 1) := by decide +kernel
theorem dX11_sells_88 : decode cX11_sells 88 = .ok (.iastore, 1) := by decide +kernel
theorem dX11_sells_89 : decode cX11_sells 89 = .ok (.iconst 1, 1) := by decide +kernel
theorem dX11_sells_90 : decode cX11_sells 90 = .ok (.ireturn, 1) := by decide +kernel
theorem dX11_goes_0 : decode cX11_goes 0 = .ok (.iload_n 1, 1) := by decide +kernel
theorem dX11_goes_1 : decode cX11_goes 1 = .ok (.ifCond .ne 12, 3) := by decide +kernel
theorem dX11_goes_4 : decode cX11_goes 4 = .ok (.aload_n 0, 1) := by decide +kernel
theorem dX11_goes_5 : decode cX11_goes 5 = .ok (.iload_n 2, 1) := by decide +kernel
theorem dX11_goes_6 : decode cX11_goes 6 = .ok (.iload_n 3, 1) := by decide +kernel
theorem dX11_goes_7 : decode cX11_goes 7 = .ok (.iload 4, 2) := by decide +kernel
theorem dX11_goes_9 : decode cX11_goes 9 = .ok (.invokevirtual 320, 3) := by decide +kernel
theorem dX11_goes_12 : decode cX11_goes 12 = .ok (.ireturn, 1) := by decide +kernel
theorem dX11_goes_13 : decode cX11_goes 13 = .ok (.iload_n 1, 1) := by decide +kernel
theorem dX11_goes_14 : decode cX11_goes 14 = .ok (.iconst 1, 1) := by decide +kernel
theorem dX11_goes_15 : decode cX11_goes 15 = .ok (.if_icmp .ne 12, 3) := by decide +kernel
theorem dX11_goes_18 : decode cX11_goes 18 = .ok (.aload_n 0, 1) := by decide +kernel
theorem dX11_goes_19 : decode cX11_goes 19 = .ok (.iload_n 2, 1) := by decide +kernel
theorem dX11_goes_20 : decode cX11_goes 20 = .ok (.iload_n 3, 1) := by decide +kernel
theorem dX11_goes_21 : decode cX11_goes 21 = .ok (.iload 4, 2) := by decide +kernel
theorem dX11_goes_23 : decode cX11_goes 23 = .ok (.invokevirtual 324, 3) := by decide +kernel
theorem dX11_goes_26 : decode cX11_goes 26 = .ok (.ireturn, 1) := by decide +kernel
theorem dX11_goes_27 : decode cX11_goes 27 = .ok (.iload_n 1, 1) := by decide +kernel
theorem dX11_goes_28 : decode cX11_goes 28 = .ok (.iconst 2, 1) := by decide +kernel
theorem dX11_goes_29 : decode cX11_goes 29 = .ok (.if_icmp .ne 44, 3) := by decide +kernel
theorem dX11_goes_32 : decode cX11_goes 32 = .ok (.aload_n 0, 1) := by decide +kernel
theorem dX11_goes_33 : decode cX11_goes 33 = .ok (.getfield 59, 3) := by decide +kernel
theorem dX11_goes_36 : decode cX11_goes 36 = .ok (.iconst 0, 1) := by decide +kernel
theorem dX11_goes_37 : decode cX11_goes 37 = .ok (.iload_n 3, 1) := by decide +kernel
theorem dX11_goes_38 : decode cX11_goes 38 = .ok (.iadd, 1) := by decide +kernel
theorem dX11_goes_39 : decode cX11_goes 39 = .ok (.iaload, 1) := by decide +kernel
theorem dX11_goes_40 : decode cX11_goes 40 = .ok (.iconst (-1), 1) := by decide +kernel
theorem dX11_goes_41 : decode cX11_goes 41 = .ok (.if_icmp .eq 17, 3) := by decide +kernel
theorem dX11_goes_44 : decode cX11_goes 44 = .ok (.aload_n 0, 1) := by decide +kernel
theorem dX11_goes_45 : decode cX11_goes 45 = .ok (.getfield 59, 3) := by decide +kernel
theorem dX11_goes_48 : decode cX11_goes 48 = .ok (.bipush 61, 2) := by decide +kernel
theorem dX11_goes_50 : decode cX11_goes 50 = .ok (.iload_n 3, 1) := by decide +kernel
theorem dX11_goes_51 : decode cX11_goes 51 = .ok (.iadd, 1) := by decide +kernel
theorem dX11_goes_52 : decode cX11_goes 52 = .ok (.iaload, 1) := by decide +kernel
theorem dX11_goes_53 : decode cX11_goes 53 = .ok (.iload 4, 2) := by decide +kernel
theorem dX11_goes_55 : decode cX11_goes 55 = .ok (.if_icmp .ne 5, 3) := by decide +kernel
theorem dX11_goes_58 : decode cX11_goes 58 = .ok (.iconst 0, 1) := by decide +kernel
theorem dX11_goes_59 : decode cX11_goes 59 = .ok (.ireturn, 1) := by decide +kernel
theorem dX11_goes_60 : decode cX11_goes 60 = .ok (.aload_n 0, 1) := by decide +kernel
theorem dX11_goes_61 : decode cX11_goes 61 = .ok (.getfield 59, 3) := by decide +kernel
theorem dX11_goes_64 : decode cX11_goes 64 = .ok (.bipush 61, 2) := by decide +kernel
theorem dX11_goes_66 : decode cX11_goes 66 = .ok (.iload_n 3, 1) := by decide +kernel
theorem dX11_goes_67 : decode cX11_goes 67 = .ok (.iadd, 1) := by decide +kernel
theorem dX11_goes_68 : decode cX11_goes 68 = .ok (.iload 4, 2) := by decide +kernel
theorem dX11_goes_70 : decode cX11_goes 70 = .ok (.iastore, 1) := by decide +kernel
theorem dX11_goes_71 : decode cX11_goes 71 = .ok (.iconst 1, 1) := by decide +kernel
theorem dX11_goes_72 : decode cX11_goes 72 = .ok (.ireturn, 1) := by decide +kernel
theorem dX11_goes_73 : decode cX11_goes 73 = .ok (.aload_n 0, 1) := by decide +kernel
theorem dX11_goes_74 : decode cX11_goes 74 = .ok (.getfield 59, 3) := by decide +kernel
theorem dX11_goes_77 : decode cX11_goes 77 = .ok (.sipush 189, 3) := by decide +kernel
theorem dX11_goes_80 : decode cX11_goes 80 = .ok (.iaload, 1) := by decide +kernel
theorem dX11_goes_81 : decode cX11_goes 81 = .ok (.sipush 900, 3) := by decide +kernel
theorem dX11_goes_84 : decode cX11_goes 84 = .ok (.if_icmp .ne 5, 3) := by decide +kernel
theorem dX11_goes_87 : decode cX11_goes 87 = .ok (.iconst 0, 1) := by decide +kernel
theorem dX11_goes_88 : decode cX11_goes 88 = .ok (.ireturn, 1) := by decide +kernel
theorem dX11_goes_89 : decode cX11_goes 89 = .ok (.aload_n 0, 1) := by decide +kernel
theorem dX11_goes_90 : decode cX11_goes 90 = .ok (.invokevirtual 327, 3) := by decide +kernel
theorem dX11_goes_93 : decode cX11_goes 93 = .ok (.iconst 1, 1) := by decide +kernel
theorem dX11_goes_94 : decode cX11_goes 94 = .ok (.ireturn, 1) := by decide +kernel
theorem dX11_passes_0 : decode cX11_passes 0 = .ok (.aload_n 0, 1) := by decide +kernel
theorem dX11_passes_1 : decode cX11_passes 1 = .ok (.getfield 59, 3) := by decide +kernel
theorem dX11_passes_4 : decode cX11_passes 4 = .ok (.sipush 189, 3) := by decide +kernel
theorem dX11_passes_7 : decode cX11_passes 7 = .ok (.dup2, 1) := by decide +kernel
theorem dX11_passes_8 : decode cX11_passes 8 = .ok (.iaload, 1) := by decide +kernel
theorem dX11_passes_9 : decode cX11_passes 9 = .ok (.iconst 1, 1) := by decide +kernel
theorem dX11_passes_10 : decode cX11_passes 10 = .ok (.iadd, 1) := by decide +kernel
theorem dX11_passes_11 : decode cX11_passes 11 = .ok (.iastore, 1) := by decide +kernel
theorem dX11_passes_12 : decode cX11_passes 12 = .ok (.iconst 0, 1) := by decide +kernel
theorem dX11_passes_13 : decode cX11_passes 13 = .ok (.istore_n 1, 1) := by decide +kernel
theorem dX11_passes_14 : decode cX11_passes 14 = .ok (.iload_n 1, 1) := by decide +kernel
theorem dX11_passes_15 : decode cX11_passes 15 = .ok (.bipush 61, 2) := by decide +kernel
theorem dX11_passes_17 : decode cX11_passes 17 = .ok (.if_icmp .ge 19, 3) := by decide +kernel
theorem dX11_passes_20 : decode cX11_passes 20 = .ok (.aload_n 0, 1) := by decide +kernel
theorem dX11_passes_21 : decode cX11_passes 21 = .ok (.getfield 59, 3) := by decide +kernel
theorem dX11_passes_24 : decode cX11_passes 24 = .ok (.bipush 122, 2) := by decide +kernel
theorem dX11_passes_26 : decode cX11_passes 26 = .ok (.iload_n 1, 1) := by decide +kernel
theorem dX11_passes_27 : decode cX11_passes 27 = .ok (.iadd, 1) := by decide +kernel
theorem dX11_passes_28 : decode cX11_passes 28 = .ok (.iconst 0, 1) := by decide +kernel
theorem dX11_passes_29 : decode cX11_passes 29 = .ok (.iastore, 1) := by decide +kernel
theorem dX11_passes_30 : decode cX11_passes 30 = .ok (.iinc 1 1, 3) := by decide +kernel
theorem dX11_passes_33 : decode cX11_passes 33 = .ok (.goto (-19), 3) := by decide +kernel
theorem dX11_passes_36 : decode cX11_passes 36 = .ok (.return_, 1) := by decide +kernel
theorem dX11_book_0 : decode cX11_book 0 = .ok (.aload_n 0, 1) := by decide +kernel
theorem dX11_book_1 : decode cX11_book 1 = .ok (.iconst 0, 1) := by decide +kernel
theorem dX11_book_2 : decode cX11_book 2 = .ok (.putfield 3, 3) := by decide +kernel
theorem dX11_book_5 : decode cX11_book 5 = .ok (.aload_n 0, 1) := by decide +kernel
theorem dX11_book_6 : decode cX11_book 6 = .ok (.iload_n 1, 1) := by decide +kernel
theorem dX11_book_7 : decode cX11_book 7 = .ok (.ifCond .lt 21, 3) := by decide +kernel
theorem dX11_book_10 : decode cX11_book 10 = .ok (.iload_n 1, 1) := by decide +kernel
theorem dX11_book_11 : decode cX11_book 11 = .ok (.aload_n 0, 1) := by decide +kernel
theorem dX11_book_12 : decode cX11_book 12 = .ok (.getfield 100, 3) := by decide +kernel
theorem dX11_book_15 : decode cX11_book 15 = .ok (.if_icmp .gt 13, 3) := by decide +kernel
theorem dX11_book_18 : decode cX11_book 18 = .ok (.iload_n 1, 1) := by decide +kernel
theorem dX11_book_19 : decode cX11_book 19 = .ok (.bipush 100, 2) := by decide +kernel
theorem dX11_book_21 : decode cX11_book 21 = .ok (.if_icmp .gt 7, 3) := by decide +kernel
theorem dX11_book_24 : decode cX11_book 24 = .ok (.iconst 1, 1) := by decide +kernel
theorem dX11_book_25 : decode cX11_book 25 = .ok (.goto 4, 3) := by decide +kernel
theorem dX11_book_28 : decode cX11_book 28 = .ok (.iconst 0, 1) := by decide +kernel
theorem dX11_book_29 : decode cX11_book 29 = .ok (.iconst 1, 1) := by decide +kernel
theorem dX11_book_30 : decode cX11_book 30 = .ok (.iconst 1, 1) := by decide +kernel
theorem dX11_book_31 : decode cX11_book 31 = .ok (.invokevirtual 185, 3) := by decide +kernel
theorem dX11_book_34 : decode cX11_book 34 = .ok (.ifCond .ne 5, 3) := by decide +kernel
theorem dX11_book_37 : decode cX11_book 37 = .ok (.iconst 0, 1) := by decide +kernel
theorem dX11_book_38 : decode cX11_book 38 = .ok (.ireturn, 1) := by decide +kernel
theorem dX11_book_39 : decode cX11_book 39 = .ok (.aload_n 0, 1) := by decide +kernel
theorem dX11_book_40 : decode cX11_book 40 = .ok (.iload_n 1, 1) := by decide +kernel
theorem dX11_book_41 : decode cX11_book 41 = .ok (.invokevirtual 189, 3) := by decide +kernel
theorem dX11_book_44 : decode cX11_book 44 = .ok (.iconst 0, 1) := by decide +kernel
theorem dX11_book_45 : decode cX11_book 45 = .ok (.istore_n 2, 1) := by decide +kernel
theorem dX11_book_46 : decode cX11_book 46 = .ok (.aload_n 0, 1) := by decide +kernel
theorem dX11_book_47 : decode cX11_book 47 = .ok (.invokevirtual 132, 3) := by decide +kernel
theorem dX11_book_50 : decode cX11_book 50 = .ok (.ifCond .eq 138, 3) := by decide +kernel
theorem dX11_book_53 : decode cX11_book 53 = .ok (.aload_n 0, 1) := by decide +kernel
theorem dX11_book_54 : decode cX11_book 54 = .ok (.invokevirtual 193, 3) := by decide +kernel
theorem dX11_book_57 : decode cX11_book 57 = .ok (.ifCond .eq 131, 3) := by decide +kernel
theorem dX11_book_60 : decode cX11_book 60 = .ok (.aload_n 0, 1) := by decide +kernel
theorem dX11_book_61 : decode cX11_book 61 = .ok (.getfield 109, 3) := by decide +kernel
theorem dX11_book_64 : decode cX11_book 64 = .ok (.istore_n 3, 1) := by decide +kernel
theorem dX11_book_65 : decode cX11_book 65 = .ok (.aload_n 0, 1) := by decide +kernel
theorem dX11_book_66 : decode cX11_book 66 = .ok (.iconst 0, 1) := by decide +kernel
theorem dX11_book_67 : decode cX11_book 67 = .ok (.bipush 60, 2) := by decide +kernel
theorem dX11_book_69 : decode cX11_book 69 = .ok (.invokevirtual 179, 3) := by decide +kernel
theorem dX11_book_72 : decode cX11_book 72 = .ok (.istore 4, 2) := by decide +kernel
theorem dX11_book_74 : decode cX11_book 74 = .ok (.iconst 0, 1) := by decide +kernel
theorem dX11_book_75 : decode cX11_book 75 = .ok (.istore 5, 2) := by decide +kernel
theorem dX11_book_77 : decode cX11_book 77 = .ok (.iload 5, 2) := by decide +kernel
theorem dX11_book_79 : decode cX11_book 79 = .ok (.iload_n 2, 1) := by decide +kernel
theorem dX11_book_80 : decode cX11_book 80 = .ok (.if_icmp .ge 36, 3) := by decide +kernel
theorem dX11_book_83 : decode cX11_book 83 = .ok (.aload_n 0, 1) := by decide +kernel
theorem dX11_book_84 : decode cX11_book 84 = .ok (.invokevirtual 132, 3) := by decide +kernel
theorem dX11_book_87 : decode cX11_book 87 = .ok (.ifCond .eq 29, 3) := by decide +kernel
theorem dX11_book_90 : decode cX11_book 90 = .ok (.aload_n 0, 1) := by decide +kernel
theorem dX11_book_91 : decode cX11_book 91 = .ok (.getfield 65, 3) := by decide +kernel
theorem dX11_book_94 : decode cX11_book 94 = .ok (.iconst 2, 1) := by decide +kernel
theorem dX11_book_95 : decode cX11_book 95 = .ok (.iload 5, 2) := by decide +kernel
theorem dX11_book_97 : decode cX11_book 97 = .ok (.imul, 1) := by decide +kernel
theorem dX11_book_98 : decode cX11_book 98 = .ok (.iaload, 1) := by decide +kernel
theorem dX11_book_99 : decode cX11_book 99 = .ok (.iload 4, 2) := by decide +kernel
theorem dX11_book_101 : decode cX11_book 101 = .ok (.if_icmp .ne 9, 3) := by decide +kernel
theorem dX11_book_104 : decode cX11_book 104 = .ok (.aload_n 0, 1) := by decide +kernel
theorem dX11_book_105 : decode cX11_book 105 = .ok (.iconst 2, 1) := by decide +kernel
theorem dX11_book_106 : decode cX11_book 106 = .ok (.iload_n 3, 1) := by decide +kernel
theorem dX11_book_107 : decode cX11_book 107 = .ok (.invokevirtual 139, 3) := by decide +kernel
theorem dX11_book_110 : decode cX11_book 110 = .ok (.iinc 5 1, 3) := by decide +kernel
theorem dX11_book_113 : decode cX11_book 113 = .ok (.goto (-36), 3) := by decide +kernel
theorem dX11_book_116 : decode cX11_book 116 = .ok (.aload_n 0, 1) := by decide +kernel
theorem dX11_book_117 : decode cX11_book 117 = .ok (.invokevirtual 132, 3) := by decide +kernel
theorem dX11_book_120 : decode cX11_book 120 = .ok (.ifCond .eq 15, 3) := by decide +kernel
theorem dX11_book_123 : decode cX11_book 123 = .ok (.iload_n 2, 1) := by decide +kernel
theorem dX11_book_124 : decode cX11_book 124 = .ok (.bipush 8, 2) := by decide +kernel
theorem dX11_book_126 : decode cX11_book 126 = .ok (.if_icmp .ne 9, 3) := by decide +kernel
theorem dX11_book_129 : decode cX11_book 129 = .ok (.aload_n 0, 1) := by decide +kernel
theorem dX11_book_130 : decode cX11_book 130 = .ok (.iconst 3, 1) := by decide +kernel
theorem dX11_book_131 : decode cX11_book 131 = .ok (.iload_n 3, 1) := by decide +kernel
theorem dX11_book_132 : decode cX11_book 132 = .ok (.invokevirtual 139, 3) := by decide +kernel
theorem dX11_book_135 : decode cX11_book 135 = .ok (.aload_n 0, 1) := by decide +kernel
theorem dX11_book_136 : decode cX11_book 136 = .ok (.iconst 1, 1) := by decide +kernel
theorem dX11_book_137 : decode cX11_book 137 = .ok (.bipush 30, 2) := by decide +kernel
theorem dX11_book_139 : decode cX11_book 139 = .ok (.invokevirtual 179, 3) := by decide +kernel
theorem dX11_book_142 : decode cX11_book 142 = .ok (.istore 5, 2) := by decide +kernel
theorem dX11_book_144 : decode cX11_book 144 = .ok (.aload_n 0, 1) := by decide +kernel
theorem dX11_book_145 : decode cX11_book 145 = .ok (.bipush 59, 2) := by decide +kernel
theorem dX11_book_147 : decode cX11_book 147 = .ok (.invokevirtual 206, 3) := by decide +kernel
theorem dX11_book_150 : decode cX11_book 150 = .ok (.aload_n 0, 1) := by decide +kernel
theorem dX11_book_151 : decode cX11_book 151 = .ok (.invokevirtual 132, 3) := by decide +kernel
theorem dX11_book_154 : decode cX11_book 154 = .ok (.ifCond .ne 6, 3) := by decide +kernel
theorem dX11_book_157 : decode cX11_book 157 = .ok (.goto 31, 3) := by decide +kernel
theorem dX11_book_160 : decode cX11_book 160 = .ok (.aload_n 0, 1) := by decide +kernel
theorem dX11_book_161 : decode cX11_book 161 = .ok (.getfield 65, 3) := by decide +kernel
theorem dX11_book_164 : decode cX11_book 164 = .ok (.iconst 2, 1) := by decide +kernel
theorem dX11_book_165 : decode cX11_book 165 = .ok (.iload_n 2, 1) := by decide +kernel
theorem dX11_book_166 : decode cX11_book 166 = .ok (.imul, 1) := by decide +kernel
theorem dX11_book_167 : decode cX11_book 167 = .ok (.iload 4, 2) := by decide +kernel
theorem dX11_book_169 : decode cX11_book 169 = .ok (.iastore, 1) := by decide +kernel
theorem dX11_book_170 : decode cX11_book 170 = .ok (.aload_n 0, 1) := by decide +kernel
theorem dX11_book_171 : decode cX11_book 171 = .ok (.getfield 65, 3) := by decide +kernel
theorem dX11_book_174 : decode cX11_book 174 = .ok (.iconst 2, 1) := by decide +kernel
theorem dX11_book_175 : decode cX11_book 175 = .ok (.iload_n 2, 1) := by decide +kernel
theorem dX11_book_176 : decode cX11_book 176 = .ok (.imul, 1) := by decide +kernel
theorem dX11_book_177 : decode cX11_book 177 = .ok (.iconst 1, 1) := by decide +kernel
theorem dX11_book_178 : decode cX11_book 178 = .ok (.iadd, 1) := by decide +kernel
theorem dX11_book_179 : decode cX11_book 179 = .ok (.iload 5, 2) := by decide +kernel
theorem dX11_book_181 : decode cX11_book 181 = .ok (.iastore, 1) := by decide +kernel
theorem dX11_book_182 : decode cX11_book 182 = .ok (.iinc 2 1, 3) := by decide +kernel
theorem dX11_book_185 : decode cX11_book 185 = .ok (.goto (-139), 3) := by decide +kernel
theorem dX11_book_188 : decode cX11_book 188 = .ok (.aload_n 0, 1) := by decide +kernel
theorem dX11_book_189 : decode cX11_book 189 = .ok (.iload_n 2, 1) := by decide +kernel
theorem dX11_book_190 : decode cX11_book 190 = .ok (.invokevirtual 209, 3) := by decide +kernel
theorem dX11_book_193 : decode cX11_book 193 = .ok (.istore_n 3, 1) := by decide +kernel
theorem dX11_book_194 : decode cX11_book 194 = .ok (.aload_n 0, 1) := by decide +kernel
theorem dX11_book_195 : decode cX11_book 195 = .ok (.getfield 103, 3) := by decide +kernel
theorem dX11_book_198 : decode cX11_book 198 = .ok (.iconst (-1), 1) := by decide +kernel
theorem dX11_book_199 : decode cX11_book 199 = .ok (.if_icmp .eq 5, 3) := by decide +kernel
theorem dX11_book_202 : decode cX11_book 202 = .ok (.iload_n 3, 1) := by decide +kernel
theorem dX11_book_203 : decode cX11_book 203 = .ok (.ireturn, 1) := by decide +kernel
theorem dX11_book_204 : decode cX11_book 204 = .ok (.aload_n 0, 1) := by decide +kernel
theorem dX11_book_205 : decode cX11_book 205 = .ok (.iload_n 2, 1) := by decide +kernel
theorem dX11_book_206 : decode cX11_book 206 = .ok (.putfield 161, 3) := by decide +kernel
theorem dX11_book_209 : decode cX11_book 209 = .ok (.aload_n 0, 1) := by decide +kernel
theorem dX11_book_210 : decode cX11_book 210 = .ok (.aload_n 0, 1) := by decide +kernel
theorem dX11_book_211 : decode cX11_book 211 = .ok (.getfield 65, 3) := by decide +kernel
theorem dX11_book_214 : decode cX11_book 214 = .ok (.aload_n 0, 1) := by decide +kernel
theorem dX11_book_215 : decode cX11_book 215 = .ok (.getfield 68, 3) := by decide +kernel
theorem dX11_book_218 : decode cX11_book 218 = .ok (.iconst 2, 1) := by decide +kernel
theorem dX11_book_219 : decode cX11_book 219 = .ok (.iload_n 2, 1) := by decide +kernel
theorem dX11_book_220 : decode cX11_book 220 = .ok (.imul, 1) := by decide +kernel
theorem dX11_book_221 : decode cX11_book 221 = .ok (.invokevirtual 255, 3) := by decide +kernel
theorem dX11_book_224 : decode cX11_book 224 = .ok (.iload_n 3, 1) := by decide +kernel
theorem dX11_book_225 : decode cX11_book 225 = .ok (.ireturn, 1) := by decide +kernel
theorem dX11_undo_0 : decode cX11_undo 0 = .ok (.aload_n 0, 1) := by decide +kernel
theorem dX11_undo_1 : decode cX11_undo 1 = .ok (.iconst 0, 1) := by decide +kernel
theorem dX11_undo_2 : decode cX11_undo 2 = .ok (.putfield 3, 3) := by decide +kernel
theorem dX11_undo_5 : decode cX11_undo 5 = .ok (.aload_n 0, 1) := by decide +kernel
theorem dX11_undo_6 : decode cX11_undo 6 = .ok (.getfield 164, 3) := by decide +kernel
theorem dX11_undo_9 : decode cX11_undo 9 = .ok (.ifCond .ne 5, 3) := by decide +kernel
theorem dX11_undo_12 : decode cX11_undo 12 = .ok (.iconst (-1), 1) := by decide +kernel
theorem dX11_undo_13 : decode cX11_undo 13 = .ok (.ireturn, 1) := by decide +kernel
theorem dX11_undo_14 : decode cX11_undo 14 = .ok (.aload_n 0, 1) := by decide +kernel
theorem dX11_undo_15 : decode cX11_undo 15 = .ok (.dup, 1) := by decide +kernel
theorem dX11_undo_16 : decode cX11_undo 16 = .ok (.getfield 164, 3) := by decide +kernel
theorem dX11_undo_19 : decode cX11_undo 19 = .ok (.iconst 1, 1) := by decide +kernel
theorem dX11_undo_20 : decode cX11_undo 20 = .ok (.isub, 1) := by decide +kernel
theorem dX11_undo_21 : decode cX11_undo 21 = .ok (.putfield 164, 3) := by decide +kernel
theorem dX11_undo_24 : decode cX11_undo 24 = .ok (.iconst 0, 1) := by decide +kernel
theorem dX11_undo_25 : decode cX11_undo 25 = .ok (.istore_n 1, 1) := by decide +kernel
theorem dX11_undo_26 : decode cX11_undo 26 = .ok (.iload_n 1, 1) := by decide +kernel
theorem dX11_undo_27 : decode cX11_undo 27 = .ok (.sipush 190, 3) := by decide +kernel
theorem dX11_undo_30 : decode cX11_undo 30 = .ok (.if_icmp .ge 30, 3) := by decide +kernel
theorem dX11_undo_33 : decode cX11_undo 33 = .ok (.aload_n 0, 1) := by decide +kernel
theorem dX11_undo_34 : decode cX11_undo 34 = .ok (.getfield 56, 3) := by decide +kernel
theorem dX11_undo_37 : decode cX11_undo 37 = .ok (.iload_n 1, 1) := by decide +kernel
theorem dX11_undo_38 : decode cX11_undo 38 = .ok (.aload_n 0, 1) := by decide +kernel
theorem dX11_undo_39 : decode cX11_undo 39 = .ok (.getfield 62, 3) := by decide +kernel
theorem dX11_undo_42 : decode cX11_undo 42 = .ok (.sipush 190, 3) := by decide +kernel
theorem dX11_undo_45 : decode cX11_undo 45 = .ok (.aload_n 0, 1) := by decide +kernel
theorem dX11_undo_46 : decode cX11_undo 46 = .ok (.getfield 164, 3) := by decide +kernel
theorem dX11_undo_49 : decode cX11_undo 49 = .ok (.imul, 1) := by decide +kernel
theorem dX11_undo_50 : decode cX11_undo 50 = .ok (.iload_n 1, 1) := by decide +kernel
theorem dX11_undo_51 : decode cX11_undo 51 = .ok (.iadd, 1) := by decide +kernel
theorem dX11_undo_52 : decode cX11_undo 52 = .ok (.iaload, 1) := by decide +kernel
theorem dX11_undo_53 : decode cX11_undo 53 = .ok (.iastore, 1) := by decide +kernel
theorem dX11_undo_54 : decode cX11_undo 54 = .ok (.iinc 1 1, 3) := by decide +kernel
theorem dX11_undo_57 : decode cX11_undo 57 = .ok (.goto (-31), 3) := by decide +kernel
theorem dX11_undo_60 : decode cX11_undo 60 = .ok (.aload_n 0, 1) := by decide +kernel
theorem dX11_undo_61 : decode cX11_undo 61 = .ok (.iconst 0, 1) := by decide +kernel
theorem dX11_undo_62 : decode cX11_undo 62 = .ok (.putfield 170, 3) := by decide +kernel
theorem dX11_undo_65 : decode cX11_undo 65 = .ok (.aload_n 0, 1) := by decide +kernel
theorem dX11_undo_66 : decode cX11_undo 66 = .ok (.getfield 164, 3) := by decide +kernel
theorem dX11_undo_69 : decode cX11_undo 69 = .ok (.ireturn, 1) := by decide +kernel
theorem dX11_coinsOf_0 : decode cX11_coinsOf 0 = .ok (.iconst 0, 1) := by decide +kernel
theorem dX11_coinsOf_1 : decode cX11_coinsOf 1 = .ok (.istore_n 2, 1) := by decide +kernel
theorem dX11_coinsOf_2 : decode cX11_coinsOf 2 = .ok (.iconst 0, 1) := by decide +kernel
theorem dX11_coinsOf_3 : decode cX11_coinsOf 3 = .ok (.istore_n 3, 1) := by decide +kernel
theorem dX11_coinsOf_4 : decode cX11_coinsOf 4 = .ok (.iload_n 3, 1) := by decide +kernel
theorem dX11_coinsOf_5 : decode cX11_coinsOf 5 = .ok (.aload_n 0, 1) := by decide +kernel
theorem dX11_coinsOf_6 : decode cX11_coinsOf 6 = .ok (.getfield 152, 3) := by decide +kernel
theorem dX11_coinsOf_9 : decode cX11_coinsOf 9 = .ok (.if_icmp .ge 20, 3) := by decide +kernel
theorem dX11_coinsOf_12 : decode cX11_coinsOf 12 = .ok (.iload_n 2, 1) := by decide +kernel
theorem dX11_coinsOf_13 : decode cX11_coinsOf 13 = .ok (.aload_n 0, 1) := by decide +kernel
theorem dX11_coinsOf_14 : decode cX11_coinsOf 14 = .ok (.getfield 59, 3) := by decide +kernel
theorem dX11_coinsOf_17 : decode cX11_coinsOf 17 = .ok (.iload_n 1, 1) := by decide +kernel
theorem dX11_coinsOf_18 : decode cX11_coinsOf 18 = .ok (.iload_n 3, 1) := by decide +kernel
theorem dX11_coinsOf_19 : decode cX11_coinsOf 19 = .ok (.iadd, 1) := by decide +kernel
theorem dX11_coinsOf_20 : decode cX11_coinsOf 20 = .ok (.iaload, 1) := by decide +kernel
theorem dX11_coinsOf_21 : decode cX11_coinsOf 21 = .ok (.iadd, 1) := by decide +kernel
theorem dX11_coinsOf_22 : decode cX11_coinsOf 22 = .ok (.istore_n 2, 1) := by decide +kernel
theorem dX11_coinsOf_23 : decode cX11_coinsOf 23 = .ok (.iinc 3 1, 3) := by decide +kernel
theorem dX11_coinsOf_26 : decode cX11_coinsOf 26 = .ok (.goto (-22), 3) := by decide +kernel
theorem dX11_coinsOf_29 : decode cX11_coinsOf 29 = .ok (.iload_n 2, 1) := by decide +kernel
theorem dX11_coinsOf_30 : decode cX11_coinsOf 30 = .ok (.ireturn, 1) := by decide +kernel
theorem dX11_told_0 : decode cX11_told 0 = .ok (.aload_n 0, 1) := by decide +kernel
theorem dX11_told_1 : decode cX11_told 1 = .ok (.iconst 0, 1) := by decide +kernel
theorem dX11_told_2 : decode cX11_told 2 = .ok (.putfield 3, 3) := by decide +kernel
theorem dX11_told_5 : decode cX11_told 5 = .ok (.aload_n 0, 1) := by decide +kernel
theorem dX11_told_6 : decode cX11_told 6 = .ok (.iload_n 1, 1) := by decide +kernel
theorem dX11_told_7 : decode cX11_told 7 = .ok (.iconst 0, 1) := by decide +kernel
theorem dX11_told_8 : decode cX11_told 8 = .ok (.bipush 7, 2) := by decide +kernel
theorem dX11_told_10 : decode cX11_told 10 = .ok (.invokestatic 330, 3) := by decide +kernel
theorem dX11_told_13 : decode cX11_told 13 = .ok (.iconst 1, 1) := by decide +kernel
theorem dX11_told_14 : decode cX11_told 14 = .ok (.iconst 1, 1) := by decide +kernel
theorem dX11_told_15 : decode cX11_told 15 = .ok (.invokevirtual 185, 3) := by decide +kernel
theorem dX11_told_18 : decode cX11_told 18 = .ok (.ifCond .ne 5, 3) := by decide +kernel
theorem dX11_told_21 : decode cX11_told 21 = .ok (.iconst 0, 1) := by decide +kernel
theorem dX11_told_22 : decode cX11_told 22 = .ok (.ireturn, 1) := by decide +kernel
theorem dX11_told_23 : decode cX11_told 23 = .ok (.aload_n 0, 1) := by decide +kernel
theorem dX11_told_24 : decode cX11_told 24 = .ok (.invokevirtual 285, 3) := by decide +kernel
theorem dX11_told_27 : decode cX11_told 27 = .ok (.iload_n 1, 1) := by decide +kernel
theorem dX11_told_28 : decode cX11_told 28 = .ok (.iconst 3, 1) := by decide +kernel
theorem dX11_told_29 : decode cX11_told 29 = .ok (.if_icmp .ge 35, 3) := by decide +kernel
theorem dX11_told_32 : decode cX11_told 32 = .ok (.iload_n 1, 1) := by decide +kernel
theorem dX11_told_33 : decode cX11_told 33 = .ok (.ifCond .ne 10, 3) := by decide +kernel
theorem dX11_told_36 : decode cX11_told 36 = .ok (.aload_n 0, 1) := by decide +kernel
theorem dX11_told_37 : decode cX11_told 37 = .ok (.getfield 152, 3) := by decide +kernel
theorem dX11_told_40 : decode cX11_told 40 = .ok (.goto 23, 3) := by decide +kernel
theorem dX11_told_43 : decode cX11_told 43 = .ok (.iload_n 1, 1) := by decide +kernel
theorem dX11_told_44 : decode cX11_told 44 = .ok (.iconst 1, 1) := by decide +kernel
theorem dX11_told_45 : decode cX11_told 45 = .ok (.if_icmp .ne 14, 3) := by decide +kernel
theorem dX11_told_48 : decode cX11_told 48 = .ok (.aload_n 0, 1) := by decide +kernel
theorem dX11_told_49 : decode cX11_told 49 = .ok (.getfield 59, 3) := by decide +kernel
theorem dX11_told_52 : decode cX11_told 52 = .ok (.sipush 189, 3) := by decide +kernel
theorem dX11_told_55 : decode cX11_told 55 = .ok (.iaload, 1) := by decide +kernel
theorem dX11_told_56 : decode cX11_told 56 = .ok (.goto 7, 3) := by decide +kernel
theorem dX11_told_59 : decode cX11_told 59 = .ok (.aload_n 0, 1) := by decide +kernel
theorem dX11_told_60 : decode cX11_told 60 = .ok (.getfield 155, 3) := by decide +kernel
theorem dX11_told_63 : decode cX11_told 63 = .ok (.ireturn, 1) := by decide +kernel
theorem dX11_told_64 : decode cX11_told 64 = .ok (.iload_n 1, 1) := by decide +kernel
theorem dX11_told_65 : decode cX11_told 65 = .ok (.iconst 4, 1) := by decide +kernel
theorem dX11_told_66 : decode cX11_told 66 = .ok (.if_icmp .le 36, 3) := by decide +kernel
theorem dX11_told_69 : decode cX11_told 69 = .ok (.iload_n 1, 1) := by decide +kernel
theorem dX11_told_70 : decode cX11_told 70 = .ok (.iconst 5, 1) := by decide +kernel
theorem dX11_told_71 : decode cX11_told 71 = .ok (.if_icmp .ne 10, 3) := by decide +kernel
theorem dX11_told_74 : decode cX11_told 74 = .ok (.aload_n 0, 1) := by decide +kernel
theorem dX11_told_75 : decode cX11_told 75 = .ok (.getfield 161, 3) := by decide +kernel
theorem dX11_told_78 : decode cX11_told 78 = .ok (.goto 23, 3) := by decide +kernel
theorem dX11_told_81 : decode cX11_told 81 = .ok (.iload_n 1, 1) := by decide +kernel
theorem dX11_told_82 : decode cX11_told 82 = .ok (.bipush 6, 2) := by decide +kernel
theorem dX11_told_84 : decode cX11_told 84 = .ok (.if_icmp .ne 10, 3) := by decide +kernel
theorem dX11_told_87 : decode cX11_told 87 = .ok (.aload_n 0, 1) := by decide +kernel
theorem dX11_told_88 : decode cX11_told 88 = .ok (.getfield 170, 3) := by decide +kernel
theorem dX11_told_91 : decode cX11_told 91 = .ok (.goto 10, 3) := by decide +kernel
theorem dX11_told_94 : decode cX11_told 94 = .ok (.aload_n 0, 1) := by decide +kernel
theorem dX11_told_95 : decode cX11_told 95 = .ok (.sipush 183, 3) := by decide +kernel
theorem dX11_told_98 : decode cX11_told 98 = .ok (.invokevirtual 333, 3) := by decide +kernel
theorem dX11_told_101 : decode cX11_told 101 = .ok (.ireturn, 1) := by decide +kernel
theorem dX11_told_102 : decode cX11_told 102 = .ok (.iconst 0, 1) := by decide +kernel
theorem dX11_told_103 : decode cX11_told 103 = .ok (.istore_n 2, 1) := by decide +kernel
theorem dX11_told_104 : decode cX11_told 104 = .ok (.iconst 0, 1) := by decide +kernel
theorem dX11_told_105 : decode cX11_told 105 = .ok (.istore_n 3, 1) := by decide +kernel
theorem dX11_told_106 : decode cX11_told 106 = .ok (.iload_n 3, 1) := by decide +kernel
theorem dX11_told_107 : decode cX11_told 107 = .ok (.bipush 61, 2) := by decide +kernel
theorem dX11_told_109 : decode cX11_told 109 = .ok (.if_icmp .ge 46, 3) := by decide +kernel
theorem dX11_told_112 : decode cX11_told 112 = .ok (.iload_n 2, 1) := by decide +kernel
theorem dX11_told_113 : decode cX11_told 113 = .ok (.iload_n 1, 1) := by decide +kernel
theorem dX11_told_114 : decode cX11_told 114 = .ok (.iconst 4, 1) := by decide +kernel
theorem dX11_told_115 : decode cX11_told 115 = .ok (.if_icmp .ne 15, 3) := by decide +kernel
theorem dX11_told_118 : decode cX11_told 118 = .ok (.aload_n 0, 1) := by decide +kernel
theorem dX11_told_119 : decode cX11_told 119 = .ok (.getfield 59, 3) := by decide +kernel
theorem dX11_told_122 : decode cX11_told 122 = .ok (.bipush 122, 2) := by decide +kernel
theorem dX11_told_124 : decode cX11_told 124 = .ok (.iload_n 3, 1) := by decide +kernel
theorem dX11_told_125 : decode cX11_told 125 = .ok (.iadd, 1) := by decide +kernel
theorem dX11_told_126 : decode cX11_told 126 = .ok (.iaload, 1) := by decide +kernel
theorem dX11_told_127 : decode cX11_told 127 = .ok (.goto 20, 3) := by decide +kernel
theorem dX11_told_130 : decode cX11_told 130 = .ok (.aload_n 0, 1) := by decide +kernel
theorem dX11_told_131 : decode cX11_told 131 = .ok (.getfield 59, 3) := by decide +kernel
theorem dX11_told_134 : decode cX11_told 134 = .ok (.iconst 0, 1) := by decide +kernel
theorem dX11_told_135 : decode cX11_told 135 = .ok (.iload_n 3, 1) := by decide +kernel
theorem dX11_told_136 : decode cX11_told 136 = .ok (.iadd, 1) := by decide +kernel
theorem dX11_told_137 : decode cX11_told 137 = .ok (.iaload, 1) := by decide +kernel
theorem dX11_told_138 : decode cX11_told 138 = .ok (.iconst (-1), 1) := by decide +kernel
theorem dX11_told_139 : decode cX11_told 139 = .ok (.if_icmp .ne 7, 3) := by decide +kernel
theorem dX11_told_142 : decode cX11_told 142 = .ok (.iconst 0, 1) := by decide +kernel
theorem dX11_told_143 : decode cX11_told 143 = .ok (.goto 4, 3) := by decide +kernel
theorem dX11_told_146 : decode cX11_told 146 = .ok (.iconst 1, 1) := by decide +kernel
theorem dX11_told_147 : decode cX11_told 147 = .ok (.iadd, 1) := by decide +kernel
theorem dX11_told_148 : decode cX11_told 148 = .ok (.istore_n 2, 1) := by decide +kernel
theorem dX11_told_149 : decode cX11_told 149 = .ok (.iinc 3 1, 3) := by decide +kernel
theorem dX11_told_152 : decode cX11_told 152 = .ok (.goto (-46), 3) := by decide +kernel
theorem dX11_told_155 : decode cX11_told 155 = .ok (.iload_n 2, 1) := by decide +kernel
theorem dX11_told_156 : decode cX11_told 156 = .ok (.ireturn, 1) := by decide +kernel
theorem dX11_isPerson_0 : decode cX11_isPerson 0 = .ok (.aload_n 0, 1) := by decide +kernel
theorem dX11_isPerson_1 : decode cX11_isPerson 1 = .ok (.iload_n 1, 1) := by decide +kernel
theorem dX11_isPerson_2 : decode cX11_isPerson 2 = .ok (.iconst 0, 1) := by decide +kernel
theorem dX11_isPerson_3 : decode cX11_isPerson 3 = .ok (.aload_n 0, 1) := by decide +kernel
theorem dX11_isPerson_4 : decode cX11_isPerson 4 = .ok (.getfield 152, 3) := by decide +kernel
theorem dX11_isPerson_7 : decode cX11_isPerson 7 = .ok (.iconst 1, 1) := by decide +kernel
theorem dX11_isPerson_8 : decode cX11_isPerson 8 = .ok (.isub, 1) := by decide +kernel
theorem dX11_isPerson_9 : decode cX11_isPerson 9 = .ok (.invokestatic 330, 3) := by decide +kernel
theorem dX11_isPerson_12 : decode cX11_isPerson 12 = .ok (.iload_n 2, 1) := by decide +kernel
theorem dX11_isPerson_13 : decode cX11_isPerson 13 = .ok (.iconst 0, 1) := by decide +kernel
theorem dX11_isPerson_14 : decode cX11_isPerson 14 = .ok (.invokevirtual 185, 3) := by decide +kernel
theorem dX11_isPerson_17 : decode cX11_isPerson 17 = .ok (.ireturn, 1) := by decide +kernel
theorem dX11_isThere_0 : decode cX11_isThere 0 = .ok (.aload_n 0, 1) := by decide +kernel
theorem dX11_isThere_1 : decode cX11_isThere 1 = .ok (.iload_n 1, 1) := by decide +kernel
theorem dX11_isThere_2 : decode cX11_isThere 2 = .ok (.iconst 0, 1) := by decide +kernel
theorem dX11_isThere_3 : decode cX11_isThere 3 = .ok (.bipush 60, 2) := by decide +kernel
theorem dX11_isThere_5 : decode cX11_isThere 5 = .ok (.invokestatic 330, 3) := by decide +kernel
theorem dX11_isThere_8 : decode cX11_isThere 8 = .ok (.iload_n 2, 1) := by decide +kernel
theorem dX11_isThere_9 : decode cX11_isThere 9 = .ok (.iconst 0, 1) := by decide +kernel
theorem dX11_isThere_10 : decode cX11_isThere 10 = .ok (.invokevirtual 185, 3) := by decide +kernel
theorem dX11_isThere_13 : decode cX11_isThere 13 = .ok (.ireturn, 1) := by decide +kernel
theorem dX11_person_0 : decode cX11_person 0 = .ok (.aload_n 0, 1) := by decide +kernel
theorem dX11_person_1 : decode cX11_person 1 = .ok (.iconst 0, 1) := by decide +kernel
theorem dX11_person_2 : decode cX11_person 2 = .ok (.putfield 3, 3) := by decide +kernel
theorem dX11_person_5 : decode cX11_person 5 = .ok (.aload_n 0, 1) := by decide +kernel
theorem dX11_person_6 : decode cX11_person 6 = .ok (.iload_n 1, 1) := by decide +kernel
theorem dX11_person_7 : decode cX11_person 7 = .ok (.iconst 1, 1) := by decide +kernel
theorem dX11_person_8 : decode cX11_person 8 = .ok (.invokevirtual 336, 3) := by decide +kernel
theorem dX11_person_11 : decode cX11_person 11 = .ok (.ifCond .eq 18, 3) := by decide +kernel
theorem dX11_person_14 : decode cX11_person 14 = .ok (.aload_n 0, 1) := by decide +kernel
theorem dX11_person_15 : decode cX11_person 15 = .ok (.iload_n 2, 1) := by decide +kernel
theorem dX11_person_16 : decode cX11_person 16 = .ok (.iconst 0, 1) := by decide +kernel
theorem dX11_person_17 : decode cX11_person 17 = .ok (.iconst 4, 1) := by decide +kernel
theorem dX11_person_18 : decode cX11_person 18 = .ok (.invokestatic 330, 3) := by decide +kernel
theorem dX11_person_21 : decode cX11_person 21 = .ok (.iconst 2, 1) := by decide +kernel
theorem dX11_person_22 : decode cX11_person 22 = .ok (.iconst 1, 1) := by decide +kernel
theorem dX11_person_23 : decode cX11_person 23 = .ok (.invokevirtual 185, 3) := by decide +kernel
theorem dX11_person_26 : decode cX11_person 26 = .ok (.ifCond .ne 5, 3) := by decide +kernel
theorem dX11_person_29 : decode cX11_person 29 = .ok (.iconst 0, 1) := by decide +kernel
theorem dX11_person_30 : decode cX11_person 30 = .ok (.ireturn, 1) := by decide +kernel
theorem dX11_person_31 : decode cX11_person 31 = .ok (.iconst 0, 1) := by decide +kernel
theorem dX11_person_32 : decode cX11_person 32 = .ok (.istore_n 3, 1) := by decide +kernel
theorem dX11_person_33 : decode cX11_person 33 = .ok (.iconst 0, 1) := by decide +kernel
theorem dX11_person_34 : decode cX11_person 34 = .ok (.istore 4, 2) := by decide +kernel
theorem dX11_person_36 : decode cX11_person 36 = .ok (.iconst (-1), 1) := by decide +kernel
theorem dX11_person_37 : decode cX11_person 37 = .ok (.istore 5, 2) := by decide +kernel
theorem dX11_person_39 : decode cX11_person 39 = .ok (.iconst (-1), 1) := by decide +kernel
theorem dX11_person_40 : decode cX11_person 40 = .ok (.istore 6, 2) := by decide +kernel
theorem dX11_person_42 : decode cX11_person 42 = .ok (.iconst 0, 1) := by decide +kernel
theorem dX11_person_43 : decode cX11_person 43 = .ok (.istore 7, 2) := by decide +kernel
theorem dX11_person_45 : decode cX11_person 45 = .ok (.iload 7, 2) := by decide +kernel
theorem dX11_person_47 : decode cX11_person 47 = .ok (.bipush 61, 2) := by decide +kernel
theorem dX11_person_49 : decode cX11_person 49 = .ok (.if_icmp .ge 62, 3) := by decide +kernel
theorem dX11_person_52 : decode cX11_person 52 = .ok (.aload_n 0, 1) := by decide +kernel
theorem dX11_person_53 : decode cX11_person 53 = .ok (.getfield 56, 3) := by decide +kernel
theorem dX11_person_56 : decode cX11_person 56 = .ok (.iconst 0, 1) := by decide +kernel
theorem dX11_person_57 : decode cX11_person 57 = .ok (.iload 7, 2) := by decide +kernel
theorem dX11_person_59 : decode cX11_person 59 = .ok (.iadd, 1) := by decide +kernel
theorem dX11_person_60 : decode cX11_person 60 = .ok (.iaload, 1) := by decide +kernel
theorem dX11_person_61 : decode cX11_person 61 = .ok (.iload_n 1, 1) := by decide +kernel
theorem dX11_person_62 : decode cX11_person 62 = .ok (.if_icmp .eq 6, 3) := by decide +kernel
theorem dX11_person_65 : decode cX11_person 65 = .ok (.goto 40, 3) := by decide +kernel
theorem dX11_person_68 : decode cX11_person 68 = .ok (.iinc 3 1, 3) := by decide +kernel
theorem dX11_person_71 : decode cX11_person 71 = .ok (.iload 4, 2) := by decide +kernel
theorem dX11_person_73 : decode cX11_person 73 = .ok (.aload_n 0, 1) := by decide +kernel
theorem dX11_person_74 : decode cX11_person 74 = .ok (.getfield 56, 3) := by decide +kernel
theorem dX11_person_77 : decode cX11_person 77 = .ok (.bipush 61, 2) := by decide +kernel
theorem dX11_person_79 : decode cX11_person 79 = .ok (.iload 7, 2) := by decide +kernel
theorem dX11_person_81 : decode cX11_person 81 = .ok (.iadd, 1) := by decide +kernel
theorem dX11_person_82 : decode cX11_person 82 = .ok (.iaload, 1) := by decide +kernel
theorem dX11_person_83 : decode cX11_person 83 = .ok (.iadd, 1) := by decide +kernel
theorem dX11_person_84 : decode cX11_person 84 = .ok (.istore 4, 2) := by decide +kernel
theorem dX11_person_86 : decode cX11_person 86 = .ok (.iload 5, 2) := by decide +kernel
theorem dX11_person_88 : decode cX11_person 88 = .ok (.iconst (-1), 1) := by decide +kernel
theorem dX11_person_89 : decode cX11_person 89 = .ok (.if_icmp .ne 8, 3) := by decide +kernel
theorem dX11_person_92 : decode cX11_person 92 = .ok (.iload 7, 2) := by decide +kernel
theorem dX11_person_94 : decode cX11_person 94 = .ok (.goto 5, 3) := by decide +kernel
theorem dX11_person_97 : decode cX11_person 97 = .ok (.iload 5, 2) := by decide +kernel
theorem dX11_person_99 : decode cX11_person 99 = .ok (.istore 5, 2) := by decide +kernel
theorem dX11_person_101 : decode cX11_person 101 = .ok (.iload 7, 2) := by decide +kernel
theorem dX11_person_103 : decode cX11_person 103 = .ok (.istore 6, 2) := by decide +kernel
theorem dX11_person_105 : decode cX11_person 105 = .ok (.iinc 7 1, 3) := by decide +kernel
theorem dX11_person_108 : decode cX11_person 108 = .ok (.goto (-63), 3) := by decide +kernel
theorem dX11_person_111 : decode cX11_person 111 = .ok (.iload_n 2, 1) := by decide +kernel
theorem dX11_person_112 : decode cX11_person 112 = .ok (.ifCond .ne 16, 3) := by decide +kernel
theorem dX11_person_115 : decode cX11_person 115 = .ok (.aload_n 0, 1) := by decide +kernel
theorem dX11_person_116 : decode cX11_person 116 = .ok (.getfield 56, 3) := by decide +kernel
theorem dX11_person_119 : decode cX11_person 119 = .ok (.sipush 183, 3) := by decide +kernel
theorem dX11_person_122 : decode cX11_person 122 = .ok (.iload_n 1, 1) := by decide +kernel
theorem dX11_person_123 : decode cX11_person 123 = .ok (.iadd, 1) := by decide +kernel
theorem dX11_person_124 : decode cX11_person 124 = .ok (.iaload, 1) := by decide +kernel
theorem dX11_person_125 : decode cX11_person 125 = .ok (.goto 34, 3) := by decide +kernel
theorem dX11_person_128 : decode cX11_person 128 = .ok (.iload_n 2, 1) := by decide +kernel
theorem dX11_person_129 : decode cX11_person 129 = .ok (.iconst 1, 1) := by decide +kernel
theorem dX11_person_130 : decode cX11_person 130 = .ok (.if_icmp .ne 7, 3) := by decide +kernel
theorem dX11_person_133 : decode cX11_person 133 = .ok (.iload_n 3, 1) := by decide +kernel
theorem dX11_person_134 : decode cX11_person 134 = .ok (.goto 25, 3) := by decide +kernel
theorem dX11_person_137 : decode cX11_person 137 = .ok (.iload_n 2, 1) := by decide +kernel
theorem dX11_person_138 : decode cX11_person 138 = .ok (.iconst 2, 1) := by decide +kernel
theorem dX11_person_139 : decode cX11_person 139 = .ok (.if_icmp .ne 8, 3) := by decide +kernel
theorem dX11_person_142 : decode cX11_person 142 = .ok (.iload 4, 2) := by decide +kernel
theorem dX11_person_144 : decode cX11_person 144 = .ok (.goto 15, 3) := by decide +kernel
theorem dX11_person_147 : decode cX11_person 147 = .ok (.iload_n 2, 1) := by decide +kernel
theorem dX11_person_148 : decode cX11_person 148 = .ok (.iconst 3, 1) := by decide +kernel
theorem dX11_person_149 : decode cX11_person 149 = .ok (.if_icmp .ne 8, 3) := by decide +kernel
theorem dX11_person_152 : decode cX11_person 152 = .ok (.iload 5, 2) := by decide +kernel
theorem dX11_person_154 : decode cX11_person 154 = .ok (.goto 5, 3) := by decide +kernel
theorem dX11_person_157 : decode cX11_person 157 = .ok (.iload 6, 2) := by decide +kernel
theorem dX11_person_159 : decode cX11_person 159 = .ok (.ireturn, 1) := by decide +kernel
theorem dX11_number_0 : decode cX11_number 0 = .ok (.aload_n 0, 1) := by decide +kernel
theorem dX11_number_1 : decode cX11_number 1 = .ok (.iconst 0, 1) := by decide +kernel
theorem dX11_number_2 : decode cX11_number 2 = .ok (.putfield 3, 3) := by decide +kernel
theorem dX11_number_5 : decode cX11_number 5 = .ok (.aload_n 0, 1) := by decide +kernel
theorem dX11_number_6 : decode cX11_number 6 = .ok (.iload_n 1, 1) := by decide +kernel
theorem dX11_number_7 : decode cX11_number 7 = .ok (.iconst 1, 1) := by decide +kernel
theorem dX11_number_8 : decode cX11_number 8 = .ok (.invokevirtual 340, 3) := by decide +kernel
theorem dX11_number_11 : decode cX11_number 11 = .ok (.ifCond .eq 18, 3) := by decide +kernel
theorem dX11_number_14 : decode cX11_number 14 = .ok (.aload_n 0, 1) := by decide +kernel
theorem dX11_number_15 : decode cX11_number 15 = .ok (.iload_n 2, 1) := by decide +kernel
theorem dX11_number_16 : decode cX11_number 16 = .ok (.iconst 0, 1) := by decide +kernel
theorem dX11_number_17 : decode cX11_number 17 = .ok (.iconst 4, 1) := by decide +kernel
theorem dX11_number_18 : decode cX11_number 18 = .ok (.invokestatic 330, 3) := by decide +kernel
theorem dX11_number_21 : decode cX11_number 21 = .ok (.iconst 2, 1) := by decide +kernel
theorem dX11_number_22 : decode cX11_number 22 = .ok (.iconst 1, 1) := by decide +kernel
theorem dX11_number_23 : decode cX11_number 23 = .ok (.invokevirtual 185, 3) := by decide +kernel
theorem dX11_number_26 : decode cX11_number 26 = .ok (.ifCond .ne 5, 3) := by decide +kernel
theorem dX11_number_29 : decode cX11_number 29 = .ok (.iconst 0, 1) := by decide +kernel
theorem dX11_number_30 : decode cX11_number 30 = .ok (.ireturn, 1) := by decide +kernel
theorem dX11_number_31 : decode cX11_number 31 = .ok (.iload_n 2, 1) := by decide +kernel
theorem dX11_number_32 : decode cX11_number 32 = .ok (.iconst 3, 1) := by decide +kernel
theorem dX11_number_33 : decode cX11_number 33 = .ok (.if_icmp .ge 31, 3) := by decide +kernel
theorem dX11_number_36 : decode cX11_number 36 = .ok (.aload_n 0, 1) := by decide +kernel
theorem dX11_number_37 : decode cX11_number 37 = .ok (.getfield 56, 3) := by decide +kernel
theorem dX11_number_40 : decode cX11_number 40 = .ok (.iload_n 2, 1) := by decide +kernel
theorem dX11_number_41 : decode cX11_number 41 = .ok (.ifCond .ne 7, 3) := by decide +kernel
theorem dX11_number_44 : decode cX11_number 44 = .ok (.iconst 0, 1) := by decide +kernel
theorem dX11_number_45 : decode cX11_number 45 = .ok (.goto 15, 3) := by decide +kernel
theorem dX11_number_48 : decode cX11_number 48 = .ok (.iload_n 2, 1) := by decide +kernel
theorem dX11_number_49 : decode cX11_number 49 = .ok (.iconst 1, 1) := by decide +kernel
theorem dX11_number_50 : decode cX11_number 50 = .ok (.if_icmp .ne 8, 3) := by decide +kernel
theorem dX11_number_53 : decode cX11_number 53 = .ok (.bipush 61, 2) := by decide +kernel
theorem dX11_number_55 : decode cX11_number 55 = .ok (.goto 5, 3) := by decide +kernel
theorem dX11_number_58 : decode cX11_number 58 = .ok (.bipush 122, 2) := by decide +kernel
theorem dX11_number_60 : decode cX11_number 60 = .ok (.iload_n 1, 1) := by decide +kernel
theorem dX11_number_61 : decode cX11_number 61 = .ok (.iadd, 1) := by decide +kernel
theorem dX11_number_62 : decode cX11_number 62 = .ok (.iaload, 1) := by decide +kernel
theorem dX11_number_63 : decode cX11_number 63 = .ok (.ireturn, 1) := by decide +kernel
theorem dX11_number_64 : decode cX11_number 64 = .ok (.iload_n 2, 1) := by decide +kernel
theorem dX11_number_65 : decode cX11_number 65 = .ok (.iconst 3, 1) := by decide +kernel
theorem dX11_number_66 : decode cX11_number 66 = .ok (.if_icmp .ne 8, 3) := by decide +kernel
theorem dX11_number_69 : decode cX11_number 69 = .ok (.iload_n 1, 1) := by decide +kernel
theorem dX11_number_70 : decode cX11_number 70 = .ok (.invokestatic 304, 3) := by decide +kernel
theorem dX11_number_73 : decode cX11_number 73 = .ok (.ireturn, 1) := by decide +kernel
theorem dX11_number_74 : decode cX11_number 74 = .ok (.iconst 2, 1) := by decide +kernel
theorem dX11_number_75 : decode cX11_number 75 = .ok (.istore_n 3, 1) := by decide +kernel
theorem dX11_number_76 : decode cX11_number 76 = .ok (.iload_n 3, 1) := by decide +kernel
theorem dX11_number_77 : decode cX11_number 77 = .ok (.iload_n 1, 1) := by decide +kernel
theorem dX11_number_78 : decode cX11_number 78 = .ok (.if_icmp .gt 17, 3) := by decide +kernel
theorem dX11_number_81 : decode cX11_number 81 = .ok (.iload_n 1, 1) := by decide +kernel
theorem dX11_number_82 : decode cX11_number 82 = .ok (.iload_n 3, 1) := by decide +kernel
theorem dX11_number_83 : decode cX11_number 83 = .ok (.irem, 1) := by decide +kernel
theorem dX11_number_84 : decode cX11_number 84 = .ok (.ifCond .ne 5, 3) := by decide +kernel
theorem dX11_number_87 : decode cX11_number 87 = .ok (.iload_n 3, 1) := by decide +kernel
theorem dX11_number_88 : decode cX11_number 88 = .ok (.ireturn, 1) := by decide +kernel
theorem dX11_number_89 : decode cX11_number 89 = .ok (.iinc 3 1, 3) := by decide +kernel
theorem dX11_number_92 : decode cX11_number 92 = .ok (.goto (-16), 3) := by decide +kernel
theorem dX11_number_95 : decode cX11_number 95 = .ok (.iconst (-1), 1) := by decide +kernel
theorem dX11_number_96 : decode cX11_number 96 = .ok (.ireturn, 1) := by decide +kernel
theorem dX11_fare_0 : decode cX11_fare 0 = .ok (.aload_n 0, 1) := by decide +kernel
theorem dX11_fare_1 : decode cX11_fare 1 = .ok (.iconst 0, 1) := by decide +kernel
theorem dX11_fare_2 : decode cX11_fare 2 = .ok (.putfield 3, 3) := by decide +kernel
theorem dX11_fare_5 : decode cX11_fare 5 = .ok (.aload_n 0, 1) := by decide +kernel
theorem dX11_fare_6 : decode cX11_fare 6 = .ok (.iload_n 1, 1) := by decide +kernel
theorem dX11_fare_7 : decode cX11_fare 7 = .ok (.iconst 1, 1) := by decide +kernel
theorem dX11_fare_8 : decode cX11_fare 8 = .ok (.invokevirtual 340, 3) := by decide +kernel
theorem dX11_fare_11 : decode cX11_fare 11 = .ok (.ifCond .eq 18, 3) := by decide +kernel
theorem dX11_fare_14 : decode cX11_fare 14 = .ok (.aload_n 0, 1) := by decide +kernel
theorem dX11_fare_15 : decode cX11_fare 15 = .ok (.iload_n 2, 1) := by decide +kernel
theorem dX11_fare_16 : decode cX11_fare 16 = .ok (.iconst 0, 1) := by decide +kernel
theorem dX11_fare_17 : decode cX11_fare 17 = .ok (.iconst 2, 1) := by decide +kernel
theorem dX11_fare_18 : decode cX11_fare 18 = .ok (.invokestatic 330, 3) := by decide +kernel
theorem dX11_fare_21 : decode cX11_fare 21 = .ok (.iconst 2, 1) := by decide +kernel
theorem dX11_fare_22 : decode cX11_fare 22 = .ok (.iconst 1, 1) := by decide +kernel
theorem dX11_fare_23 : decode cX11_fare 23 = .ok (.invokevirtual 185, 3) := by decide +kernel
theorem dX11_fare_26 : decode cX11_fare 26 = .ok (.ifCond .ne 5, 3) := by decide +kernel
theorem dX11_fare_29 : decode cX11_fare 29 = .ok (.iconst 0, 1) := by decide +kernel
theorem dX11_fare_30 : decode cX11_fare 30 = .ok (.ireturn, 1) := by decide +kernel
theorem dX11_fare_31 : decode cX11_fare 31 = .ok (.aload_n 0, 1) := by decide +kernel
theorem dX11_fare_32 : decode cX11_fare 32 = .ok (.invokevirtual 285, 3) := by decide +kernel
theorem dX11_fare_35 : decode cX11_fare 35 = .ok (.aload_n 0, 1) := by decide +kernel
theorem dX11_fare_36 : decode cX11_fare 36 = .ok (.iload_n 1, 1) := by decide +kernel
theorem dX11_fare_37 : decode cX11_fare 37 = .ok (.iload_n 2, 1) := by decide +kernel
theorem dX11_fare_38 : decode cX11_fare 38 = .ok (.invokevirtual 314, 3) := by decide +kernel
theorem dX11_fare_41 : decode cX11_fare 41 = .ok (.ireturn, 1) := by decide +kernel
theorem dX11_would_0 : decode cX11_would 0 = .ok (.aload_n 0, 1) := by decide +kernel
theorem dX11_would_1 : decode cX11_would 1 = .ok (.iconst 0, 1) := by decide +kernel
theorem dX11_would_2 : decode cX11_would 2 = .ok (.putfield 3, 3) := by decide +kernel
theorem dX11_would_5 : decode cX11_would 5 = .ok (.aload_n 0, 1) := by decide +kernel
theorem dX11_would_6 : decode cX11_would 6 = .ok (.iload_n 1, 1) := by decide +kernel
theorem dX11_would_7 : decode cX11_would 7 = .ok (.iconst 0, 1) := by decide +kernel
theorem dX11_would_8 : decode cX11_would 8 = .ok (.bipush 60, 2) := by decide +kernel
theorem dX11_would_10 : decode cX11_would 10 = .ok (.invokestatic 330, 3) := by decide +kernel
theorem dX11_would_13 : decode cX11_would 13 = .ok (.ifCond .eq 60, 3) := by decide +kernel
theorem dX11_would_16 : decode cX11_would 16 = .ok (.iload_n 2, 1) := by decide +kernel
theorem dX11_would_17 : decode cX11_would 17 = .ok (.iconst 0, 1) := by decide +kernel
theorem dX11_would_18 : decode cX11_would 18 = .ok (.bipush 40, 2) := by decide +kernel
theorem dX11_would_20 : decode cX11_would 20 = .ok (.invokestatic 330, 3) := by decide +kernel
theorem dX11_would_23 : decode cX11_would 23 = .ok (.ifCond .eq 50, 3) := by decide +kernel
theorem dX11_would_26 : decode cX11_would 26 = .ok (.iload_n 3, 1) := by decide +kernel
theorem dX11_would_27 : decode cX11_would 27 = .ok (.iconst 0, 1) := by decide +kernel
theorem dX11_would_28 : decode cX11_would 28 = .ok (.iconst 2, 1) := by decide +kernel
theorem dX11_would_29 : decode cX11_would 29 = .ok (.invokestatic 330, 3) := by decide +kernel
theorem dX11_would_32 : decode cX11_would 32 = .ok (.ifCond .eq 41, 3) := by decide +kernel
theorem dX11_would_35 : decode cX11_would 35 = .ok (.iload 4, 2) := by decide +kernel
theorem dX11_would_37 : decode cX11_would 37 = .ok (.iconst 0, 1) := by decide +kernel
theorem dX11_would_38 : decode cX11_would 38 = .ok (.iconst 5, 1) := by decide +kernel
theorem dX11_would_39 : decode cX11_would 39 = .ok (.invokestatic 330, 3) := by decide +kernel
theorem dX11_would_42 : decode cX11_would 42 = .ok (.ifCond .eq 31, 3) := by decide +kernel
theorem dX11_would_45 : decode cX11_would 45 = .ok (.iload 5, 2) := by decide +kernel
theorem dX11_would_47 : decode cX11_would 47 = .ok (.iconst 0, 1) := by decide +kernel
theorem dX11_would_48 : decode cX11_would 48 = .ok (.sipush 999, 3) := by decide +kernel
theorem dX11_would_51 : decode cX11_would 51 = .ok (.invokestatic 330, 3) := by decide +kernel
theorem dX11_would_54 : decode cX11_would 54 = .ok (.ifCond .eq 19, 3) := by decide +kernel
theorem dX11_would_57 : decode cX11_would 57 = .ok (.iload 6, 2) := by decide +kernel
theorem dX11_would_59 : decode cX11_would 59 = .ok (.iconst 0, 1) := by decide +kernel
theorem dX11_would_60 : decode cX11_would 60 = .ok (.sipush 900, 3) := by decide +kernel
theorem dX11_would_63 : decode cX11_would 63 = .ok (.invokestatic 330, 3) := by decide +kernel
theorem dX11_would_66 : decode cX11_would 66 = .ok (.ifCond .eq 7, 3) := by decide +kernel
theorem dX11_would_69 : decode cX11_would 69 = .ok (.iconst 1, 1) := by decide +kernel
theorem dX11_would_70 : decode cX11_would 70 = .ok (.goto 4, 3) := by decide +kernel
theorem dX11_would_73 : decode cX11_would 73 = .ok (.iconst 0, 1) := by decide +kernel
theorem dX11_would_74 : decode cX11_would 74 = .ok (.iconst 1, 1) := by decide +kernel
theorem dX11_would_75 : decode cX11_would 75 = .ok (.iconst 1, 1) := by decide +kernel
theorem dX11_would_76 : decode cX11_would 76 = .ok (.invokevirtual 185, 3) := by decide +kernel
theorem dX11_would_79 : decode cX11_would 79 = .ok (.ifCond .ne 5, 3) := by decide +kernel
theorem dX11_would_82 : decode cX11_would 82 = .ok (.iconst 0, 1) := by decide +kernel
theorem dX11_would_83 : decode cX11_would 83 = .ok (.ireturn, 1) := by decide +kernel
theorem dX11_would_84 : decode cX11_would 84 = .ok (.aload_n 0, 1) := by decide +kernel
theorem dX11_would_85 : decode cX11_would 85 = .ok (.iload_n 1, 1) := by decide +kernel
theorem dX11_would_86 : decode cX11_would 86 = .ok (.iload_n 2, 1) := by decide +kernel
theorem dX11_would_87 : decode cX11_would 87 = .ok (.iload_n 3, 1) := by decide +kernel
theorem dX11_would_88 : decode cX11_would 88 = .ok (.iload 4, 2) := by decide +kernel
theorem dX11_would_90 : decode cX11_would 90 = .ok (.iload 5, 2) := by decide +kernel
theorem dX11_would_92 : decode cX11_would 92 = .ok (.iload 6, 2) := by decide +kernel
theorem dX11_would_94 : decode cX11_would 94 = .ok (.invokevirtual 310, 3) := by decide +kernel
theorem dX11_would_97 : decode cX11_would 97 = .ok (.ireturn, 1) := by decide +kernel
theorem dX11_madeBy_0 : decode cX11_madeBy 0 = .ok (.iload_n 0, 1) := by decide +kernel
theorem dX11_madeBy_1 : decode cX11_madeBy 1 = .ok (.iconst 1, 1) := by decide +kernel
theorem dX11_madeBy_2 : decode cX11_madeBy 2 = .ok (.if_icmp .ne 9, 3) := by decide +kernel
theorem dX11_madeBy_5 : decode cX11_madeBy 5 = .ok (.iload_n 1, 1) := by decide +kernel
theorem dX11_madeBy_6 : decode cX11_madeBy 6 = .ok (.iload_n 2, 1) := by decide +kernel
theorem dX11_madeBy_7 : decode cX11_madeBy 7 = .ok (.iadd, 1) := by decide +kernel
theorem dX11_madeBy_8 : decode cX11_madeBy 8 = .ok (.goto 17, 3) := by decide +kernel
theorem dX11_madeBy_11 : decode cX11_madeBy 11 = .ok (.iload_n 0, 1) := by decide +kernel
theorem dX11_madeBy_12 : decode cX11_madeBy 12 = .ok (.iconst 2, 1) := by decide +kernel
theorem dX11_madeBy_13 : decode cX11_madeBy 13 = .ok (.if_icmp .ne 9, 3) := by decide +kernel
theorem dX11_madeBy_16 : decode cX11_madeBy 16 = .ok (.iload_n 1, 1) := by decide +kernel
theorem dX11_madeBy_17 : decode cX11_madeBy 17 = .ok (.iload_n 2, 1) := by decide +kernel
theorem dX11_madeBy_18 : decode cX11_madeBy 18 = .ok (.isub, 1) := by decide +kernel
theorem dX11_madeBy_19 : decode cX11_madeBy 19 = .ok (.goto 6, 3) := by decide +kernel
theorem dX11_madeBy_22 : decode cX11_madeBy 22 = .ok (.iload_n 1, 1) := by decide +kernel
theorem dX11_madeBy_23 : decode cX11_madeBy 23 = .ok (.iload_n 2, 1) := by decide +kernel
theorem dX11_madeBy_24 : decode cX11_madeBy 24 = .ok (.imul, 1) := by decide +kernel
theorem dX11_madeBy_25 : decode cX11_madeBy 25 = .ok (.ireturn, 1) := by decide +kernel
theorem dX11_laySaid_0 : decode cX11_laySaid 0 = .ok (.aload_n 0, 1) := by decide +kernel
theorem dX11_laySaid_1 : decode cX11_laySaid 1 = .ok (.invokevirtual 285, 3) := by decide +kernel
theorem dX11_laySaid_4 : decode cX11_laySaid 4 = .ok (.iconst 0, 1) := by decide +kernel
theorem dX11_laySaid_5 : decode cX11_laySaid 5 = .ok (.istore_n 1, 1) := by decide +kernel
theorem dX11_laySaid_6 : decode cX11_laySaid 6 = .ok (.iload_n 1, 1) := by decide +kernel
theorem dX11_laySaid_7 : decode cX11_laySaid 7 = .ok (.bipush 61, 2) := by decide +kernel
theorem dX11_laySaid_9 : decode cX11_laySaid 9 = .ok (.if_icmp .ge 28, 3) := by decide +kernel
theorem dX11_laySaid_12 : decode cX11_laySaid 12 = .ok (.aload_n 0, 1) := by decide +kernel
theorem dX11_laySaid_13 : decode cX11_laySaid 13 = .ok (.getfield 71, 3) := by decide +kernel
theorem dX11_laySaid_16 : decode cX11_laySaid 16 = .ok (.iload_n 1, 1) := by decide +kernel
theorem dX11_laySaid_17 : decode cX11_laySaid 17 = .ok (.ldc2_w 343, 3) := by decide +kernel
theorem dX11_laySaid_20 : decode cX11_laySaid 20 = .ok (.aload_n 0, 1) := by decide +kernel
theorem dX11_laySaid_21 : decode cX11_laySaid 21 = .ok (.iload_n 1, 1) := by decide +kernel
theorem dX11_laySaid_22 : decode cX11_laySaid 22 = .ok (.iconst 1, 1) := by decide +kernel
theorem dX11_laySaid_23 : decode cX11_laySaid 23 = .ok (.invokevirtual 314, 3) := by decide +kernel
theorem dX11_laySaid_26 : decode cX11_laySaid 26 = .ok (.i2l, 1) := by decide +kernel
theorem dX11_laySaid_27 : decode cX11_laySaid 27 = .ok (.lmul, 1) := by decide +kernel
theorem dX11_laySaid_28 : decode cX11_laySaid 28 = .ok (.lconst 1, 1) := by decide +kernel
theorem dX11_laySaid_29 : decode cX11_laySaid 29 = .ok (.ladd, 1) := by decide +kernel
theorem dX11_laySaid_30 : decode cX11_laySaid 30 = .ok (.lastore, 1) := by decide +kernel
theorem dX11_laySaid_31 : decode cX11_laySaid 31 = .ok (.iinc 1 1, 3) := by decide +kernel
theorem dX11_laySaid_34 : decode cX11_laySaid 34 = .ok (.goto (-28), 3) := by decide +kernel
theorem dX11_laySaid_37 : decode cX11_laySaid 37 = .ok (.iconst 1, 1) := by decide +kernel
theorem dX11_laySaid_38 : decode cX11_laySaid 38 = .ok (.istore_n 1, 1) := by decide +kernel
theorem dX11_laySaid_39 : decode cX11_laySaid 39 = .ok (.iload_n 1, 1) := by decide +kernel
theorem dX11_laySaid_40 : decode cX11_laySaid 40 = .ok (.ifCond .eq 128, 3) := by decide +kernel
theorem dX11_laySaid_43 : decode cX11_laySaid 43 = .ok (.iconst 0, 1) := by decide +kernel
theorem dX11_laySaid_44 : decode cX11_laySaid 44 = .ok (.istore_n 1, 1) := by decide +kernel
theorem dX11_laySaid_45 : decode cX11_laySaid 45 = .ok (.iconst 1, 1) := by decide +kernel
theorem dX11_laySaid_46 : decode cX11_laySaid 46 = .ok (.istore_n 2, 1) := by decide +kernel
theorem dX11_laySaid_47 : decode cX11_laySaid 47 = .ok (.iload_n 2, 1) := by decide +kernel
theorem dX11_laySaid_48 : decode cX11_laySaid 48 = .ok (.iconst 3, 1) := by decide +kernel
theorem dX11_laySaid_49 : decode cX11_laySaid 49 = .ok (.if_icmp .gt 116, 3) := by decide +kernel
theorem dX11_laySaid_52 : decode cX11_laySaid 52 = .ok (.iconst 0, 1) := by decide +kernel
theorem dX11_laySaid_53 : decode cX11_laySaid 53 = .ok (.istore_n 3, 1) := by decide +kernel
theorem dX11_laySaid_54 : decode cX11_laySaid 54 = .ok (.iload_n 3, 1) := by decide +kernel
theorem dX11_laySaid_55 : decode cX11_laySaid 55 = .ok (.bipush 61, 2) := by decide +kernel
theorem dX11_laySaid_57 : decode cX11_laySaid 57 = .ok (.if_icmp .ge 102, 3) := by decide +kernel
theorem dX11_laySaid_60 : decode cX11_laySaid 60 = .ok (.iconst 0, 1) := by decide +kernel
theorem dX11_laySaid_61 : decode cX11_laySaid 61 = .ok (.istore 4, 2) := by decide +kernel
theorem dX11_laySaid_63 : decode cX11_laySaid 63 = .ok (.iload 4, 2) := by decide +kernel
theorem dX11_laySaid_65 : decode cX11_laySaid 65 = .ok (.bipush 61, 2) := by decide +kernel
theorem dX11_laySaid_67 : decode cX11_laySaid 67 = .ok (.if_icmp .ge 86, 3) := by decide +kernel
theorem dX11_laySaid_70 : decode cX11_laySaid 70 = .ok (.iload_n 2, 1) := by decide +kernel
theorem dX11_laySaid_71 : decode cX11_laySaid 71 = .ok (.iload_n 3, 1) := by decide +kernel
theorem dX11_laySaid_72 : decode cX11_laySaid 72 = .ok (.iload 4, 2) := by decide +kernel
theorem dX11_laySaid_74 : decode cX11_laySaid 74 = .ok (.invokestatic 345, 3) := by decide +kernel
theorem dX11_laySaid_77 : decode cX11_laySaid 77 = .ok (.istore 5, 2) := by decide +kernel
theorem dX11_laySaid_79 : decode cX11_laySaid 79 = .ok (.iload 5, 2) := by decide +kernel
theorem dX11_laySaid_81 : decode cX11_laySaid 81 = .ok (.ifCond .lt 66, 3) := by decide +kernel
theorem dX11_laySaid_84 : decode cX11_laySaid 84 = .ok (.iload 5, 2) := by decide +kernel
theorem dX11_laySaid_86 : decode cX11_laySaid 86 = .ok (.bipush 61, 2) := by decide +kernel
theorem dX11_laySaid_88 : decode cX11_laySaid 88 = .ok (.if_icmp .lt 6, 3) := by decide +kernel
theorem dX11_laySaid_91 : decode cX11_laySaid 91 = .ok (.goto 56, 3) := by decide +kernel
theorem dX11_laySaid_94 : decode cX11_laySaid 94 = .ok (.aload_n 0, 1) := by decide +kernel
theorem dX11_laySaid_95 : decode cX11_laySaid 95 = .ok (.getfield 71, 3) := by decide +kernel
theorem dX11_laySaid_98 : decode cX11_laySaid 98 = .ok (.iload_n 3, 1) := by decide +kernel
theorem dX11_laySaid_99 : decode cX11_laySaid 99 = .ok (.laload, 1) := by decide +kernel
theorem dX11_laySaid_100 : decode cX11_laySaid 100 = .ok (.aload_n 0, 1) := by decide +kernel
theorem dX11_laySaid_101 : decode cX11_laySaid 101 = .ok (.getfield 71, 3) := by decide +kernel
theorem dX11_laySaid_104 : decode cX11_laySaid 104 = .ok (.iload 4, 2) := by decide +kernel
theorem dX11_laySaid_106 : decode cX11_laySaid 106 = .ok (.laload, 1) := by decide +kernel
theorem dX11_laySaid_107 : decode cX11_laySaid 107 = .ok (.ladd, 1) := by decide +kernel
theorem dX11_laySaid_108 : decode cX11_laySaid 108 = .ok (.ldc2_w 343, 3) := by decide +kernel
theorem dX11_laySaid_111 : decode cX11_laySaid 111 = .ok (.aload_n 0, 1) := by decide +kernel
theorem dX11_laySaid_112 : decode cX11_laySaid 112 = .ok (.getfield 155, 3) := by decide +kernel
theorem dX11_laySaid_115 : decode cX11_laySaid 115 = .ok (.i2l, 1) := by decide +kernel
theorem dX11_laySaid_116 : decode cX11_laySaid 116 = .ok (.lmul, 1) := by decide +kernel
theorem dX11_laySaid_117 : decode cX11_laySaid 117 = .ok (.ladd, 1) := by decide +kernel
theorem dX11_laySaid_118 : decode cX11_laySaid 118 = .ok (.lstore 6, 2) := by decide +kernel
theorem dX11_laySaid_120 : decode cX11_laySaid 120 = .ok (.lload 6, 2) := by decide +kernel
theorem dX11_laySaid_122 : decode cX11_laySaid 122 = .ok (.aload_n 0, 1) := by decide +kernel
theorem dX11_laySaid_123 : decode cX11_laySaid 123 = .ok (.getfield 71, 3) := by decide +kernel
theorem dX11_laySaid_126 : decode cX11_laySaid 126 = .ok (.iload 5, 2) := by decide +kernel
theorem dX11_laySaid_128 : decode cX11_laySaid 128 = .ok (.laload, 1) := by decide +kernel
theorem dX11_laySaid_129 : decode cX11_laySaid 129 = .ok (.lcmp, 1) := by decide +kernel
theorem dX11_laySaid_130 : decode cX11_laySaid 130 = .ok (.ifCond .lt 6, 3) := by decide +kernel
theorem dX11_laySaid_133 : decode cX11_laySaid 133 = .ok (.goto 14, 3) := by decide +kernel
theorem dX11_laySaid_136 : decode cX11_laySaid 136 = .ok (.aload_n 0, 1) := by decide +kernel
theorem dX11_laySaid_137 : decode cX11_laySaid 137 = .ok (.getfield 71, 3) := by decide +kernel
theorem dX11_laySaid_140 : decode cX11_laySaid 140 = .ok (.iload 5, 2) := by decide +kernel
theorem dX11_laySaid_142 : decode cX11_laySaid 142 = .ok (.lload 6, 2) := by decide +kernel
theorem dX11_laySaid_144 : decode cX11_laySaid 144 = .ok (.lastore, 1) := by decide +kernel
theorem dX11_laySaid_145 : decode cX11_laySaid 145 = .ok (.iconst 1, 1) := by decide +kernel
theorem dX11_laySaid_146 : decode cX11_laySaid 146 = .ok (.istore_n 1, 1) := by decide +kernel
theorem dX11_laySaid_147 : decode cX11_laySaid 147 = .ok (.iinc 4 1, 3) := by decide +kernel
theorem dX11_laySaid_150 : decode cX11_laySaid 150 = .ok (.goto (-87), 3) := by decide +kernel
theorem dX11_laySaid_153 : decode cX11_laySaid 153 = .ok (.iinc 3 1, 3) := by decide +kernel
theorem dX11_laySaid_156 : decode cX11_laySaid 156 = .ok (.goto (-102), 3) := by decide +kernel
theorem dX11_laySaid_159 : decode cX11_laySaid 159 = .ok (.iinc 2 1, 3) := by decide +kernel
theorem dX11_laySaid_162 : decode cX11_laySaid 162 = .ok (.goto (-115), 3) := by decide +kernel
theorem dX11_laySaid_165 : decode cX11_laySaid 165 = .ok (.goto (-126), 3) := by decide +kernel
theorem dX11_laySaid_168 : decode cX11_laySaid 168 = .ok (.return_, 1) := by decide +kernel
theorem dX11_cost_0 : decode cX11_cost 0 = .ok (.aload_n 0, 1) := by decide +kernel
theorem dX11_cost_1 : decode cX11_cost 1 = .ok (.iconst 0, 1) := by decide +kernel
theorem dX11_cost_2 : decode cX11_cost 2 = .ok (.putfield 3, 3) := by decide +kernel
theorem dX11_cost_5 : decode cX11_cost 5 = .ok (.aload_n 0, 1) := by decide +kernel
theorem dX11_cost_6 : decode cX11_cost 6 = .ok (.iload_n 1, 1) := by decide +kernel
theorem dX11_cost_7 : decode cX11_cost 7 = .ok (.iconst 1, 1) := by decide +kernel
theorem dX11_cost_8 : decode cX11_cost 8 = .ok (.invokevirtual 340, 3) := by decide +kernel
theorem dX11_cost_11 : decode cX11_cost 11 = .ok (.ifCond .ne 5, 3) := by decide +kernel
theorem dX11_cost_14 : decode cX11_cost 14 = .ok (.iconst 0, 1) := by decide +kernel
theorem dX11_cost_15 : decode cX11_cost 15 = .ok (.ireturn, 1) := by decide +kernel
theorem dX11_cost_16 : decode cX11_cost 16 = .ok (.aload_n 0, 1) := by decide +kernel
theorem dX11_cost_17 : decode cX11_cost 17 = .ok (.invokevirtual 348, 3) := by decide +kernel
theorem dX11_cost_20 : decode cX11_cost 20 = .ok (.aload_n 0, 1) := by decide +kernel
theorem dX11_cost_21 : decode cX11_cost 21 = .ok (.getfield 71, 3) := by decide +kernel
theorem dX11_cost_24 : decode cX11_cost 24 = .ok (.iload_n 1, 1) := by decide +kernel
theorem dX11_cost_25 : decode cX11_cost 25 = .ok (.laload, 1) := by decide +kernel
theorem dX11_cost_26 : decode cX11_cost 26 = .ok (.ldc2_w 343, 3) := by decide +kernel
theorem dX11_cost_29 : decode cX11_cost 29 = .ok (.ldiv, 1) := by decide +kernel
theorem dX11_cost_30 : decode cX11_cost 30 = .ok (.l2i, 1) := by decide +kernel
theorem dX11_cost_31 : decode cX11_cost 31 = .ok (.ireturn, 1) := by decide +kernel
theorem dX11_leaves_0 : decode cX11_leaves 0 = .ok (.aload_n 0, 1) := by decide +kernel
theorem dX11_leaves_1 : decode cX11_leaves 1 = .ok (.iconst 0, 1) := by decide +kernel
theorem dX11_leaves_2 : decode cX11_leaves 2 = .ok (.putfield 3, 3) := by decide +kernel
theorem dX11_leaves_5 : decode cX11_leaves 5 = .ok (.aload_n 0, 1) := by decide +kernel
theorem dX11_leaves_6 : decode cX11_leaves 6 = .ok (.iload_n 1, 1) := by decide +kernel
theorem dX11_leaves_7 : decode cX11_leaves 7 = .ok (.iconst 1, 1) := by decide +kernel
theorem dX11_leaves_8 : decode cX11_leaves 8 = .ok (.invokevirtual 340, 3) := by decide +kernel
theorem dX11_leaves_11 : decode cX11_leaves 11 = .ok (.ifCond .ne 5, 3) := by decide +kernel
theorem dX11_leaves_14 : decode cX11_leaves 14 = .ok (.iconst 0, 1) := by decide +kernel
theorem dX11_leaves_15 : decode cX11_leaves 15 = .ok (.ireturn, 1) := by decide +kernel
theorem dX11_leaves_16 : decode cX11_leaves 16 = .ok (.aload_n 0, 1) := by decide +kernel
theorem dX11_leaves_17 : decode cX11_leaves 17 = .ok (.invokevirtual 348, 3) := by decide +kernel
theorem dX11_leaves_20 : decode cX11_leaves 20 = .ok (.aload_n 0, 1) := by decide +kernel
theorem dX11_leaves_21 : decode cX11_leaves 21 = .ok (.getfield 71, 3) := by decide +kernel
theorem dX11_leaves_24 : decode cX11_leaves 24 = .ok (.iload_n 1, 1) := by decide +kernel
theorem dX11_leaves_25 : decode cX11_leaves 25 = .ok (.laload, 1) := by decide +kernel
theorem dX11_leaves_26 : decode cX11_leaves 26 = .ok (.ldc2_w 343, 3) := by decide +kernel
theorem dX11_leaves_29 : decode cX11_leaves 29 = .ok (.lrem, 1) := by decide +kernel
theorem dX11_leaves_30 : decode cX11_leaves 30 = .ok (.l2i, 1) := by decide +kernel
theorem dX11_leaves_31 : decode cX11_leaves 31 = .ok (.ireturn, 1) := by decide +kernel
theorem dX11_saying_0 : decode cX11_saying 0 = .ok (.aload_n 0, 1) := by decide +kernel
theorem dX11_saying_1 : decode cX11_saying 1 = .ok (.iconst 0, 1) := by decide +kernel
theorem dX11_saying_2 : decode cX11_saying 2 = .ok (.putfield 3, 3) := by decide +kernel
theorem dX11_saying_5 : decode cX11_saying 5 = .ok (.aload_n 0, 1) := by decide +kernel
theorem dX11_saying_6 : decode cX11_saying 6 = .ok (.iload_n 1, 1) := by decide +kernel
theorem dX11_saying_7 : decode cX11_saying 7 = .ok (.iconst 1, 1) := by decide +kernel
theorem dX11_saying_8 : decode cX11_saying 8 = .ok (.invokevirtual 340, 3) := by decide +kernel
theorem dX11_saying_11 : decode cX11_saying 11 = .ok (.ifCond .eq 18, 3) := by decide +kernel
theorem dX11_saying_14 : decode cX11_saying 14 = .ok (.aload_n 0, 1) := by decide +kernel
theorem dX11_saying_15 : decode cX11_saying 15 = .ok (.iload_n 2, 1) := by decide +kernel
theorem dX11_saying_16 : decode cX11_saying 16 = .ok (.iconst 0, 1) := by decide +kernel
theorem dX11_saying_17 : decode cX11_saying 17 = .ok (.iconst 2, 1) := by decide +kernel
theorem dX11_saying_18 : decode cX11_saying 18 = .ok (.invokestatic 330, 3) := by decide +kernel
theorem dX11_saying_21 : decode cX11_saying 21 = .ok (.iconst 2, 1) := by decide +kernel
theorem dX11_saying_22 : decode cX11_saying 22 = .ok (.iconst 1, 1) := by decide +kernel
theorem dX11_saying_23 : decode cX11_saying 23 = .ok (.invokevirtual 185, 3) := by decide +kernel
theorem dX11_saying_26 : decode cX11_saying 26 = .ok (.ifCond .ne 5, 3) := by decide +kernel
theorem dX11_saying_29 : decode cX11_saying 29 = .ok (.iconst 0, 1) := by decide +kernel
theorem dX11_saying_30 : decode cX11_saying 30 = .ok (.ireturn, 1) := by decide +kernel
theorem dX11_saying_31 : decode cX11_saying 31 = .ok (.aload_n 0, 1) := by decide +kernel
theorem dX11_saying_32 : decode cX11_saying 32 = .ok (.invokevirtual 348, 3) := by decide +kernel
theorem dX11_saying_35 : decode cX11_saying 35 = .ok (.aload_n 0, 1) := by decide +kernel
theorem dX11_saying_36 : decode cX11_saying 36 = .ok (.getfield 71, 3) := by decide +kernel
theorem dX11_saying_39 : decode cX11_saying 39 = .ok (.iload_n 1, 1) := by decide +kernel
theorem dX11_saying_40 : decode cX11_saying 40 = .ok (.laload, 1) := by decide +kernel
theorem dX11_saying_41 : decode cX11_saying 41 = .ok (.ldc2_w 343, 3) := by decide +kernel
theorem dX11_saying_44 : decode cX11_saying 44 = .ok (.lrem, 1) := by decide +kernel
theorem dX11_saying_45 : decode cX11_saying 45 = .ok (.lconst 1, 1) := by decide +kernel
theorem dX11_saying_46 : decode cX11_saying 46 = .ok (.lcmp, 1) := by decide +kernel
theorem dX11_saying_47 : decode cX11_saying 47 = .ok (.ifCond .ne 13, 3) := by decide +kernel
theorem dX11_saying_50 : decode cX11_saying 50 = .ok (.iload_n 2, 1) := by decide +kernel
theorem dX11_saying_51 : decode cX11_saying 51 = .ok (.ifCond .ne 7, 3) := by decide +kernel
theorem dX11_saying_54 : decode cX11_saying 54 = .ok (.iconst 0, 1) := by decide +kernel
theorem dX11_saying_55 : decode cX11_saying 55 = .ok (.goto 4, 3) := by decide +kernel
theorem dX11_saying_58 : decode cX11_saying 58 = .ok (.iconst (-1), 1) := by decide +kernel
theorem dX11_saying_59 : decode cX11_saying 59 = .ok (.ireturn, 1) := by decide +kernel
theorem dX11_saying_60 : decode cX11_saying 60 = .ok (.iconst 1, 1) := by decide +kernel
theorem dX11_saying_61 : decode cX11_saying 61 = .ok (.istore_n 3, 1) := by decide +kernel
theorem dX11_saying_62 : decode cX11_saying 62 = .ok (.iload_n 3, 1) := by decide +kernel
theorem dX11_saying_63 : decode cX11_saying 63 = .ok (.iconst 3, 1) := by decide +kernel
theorem dX11_saying_64 : decode cX11_saying 64 = .ok (.if_icmp .gt 119, 3) := by decide +kernel
theorem dX11_saying_67 : decode cX11_saying 67 = .ok (.iconst 0, 1) := by decide +kernel
theorem dX11_saying_68 : decode cX11_saying 68 = .ok (.istore 4, 2) := by decide +kernel
theorem dX11_saying_70 : decode cX11_saying 70 = .ok (.iload 4, 2) := by decide +kernel
theorem dX11_saying_72 : decode cX11_saying 72 = .ok (.bipush 61, 2) := by decide +kernel
theorem dX11_saying_74 : decode cX11_saying 74 = .ok (.if_icmp .ge 103, 3) := by decide +kernel
theorem dX11_saying_77 : decode cX11_saying 77 = .ok (.iload_n 3, 1) := by decide +kernel
theorem dX11_saying_78 : decode cX11_saying 78 = .ok (.iconst 2, 1) := by decide +kernel
theorem dX11_saying_79 : decode cX11_saying 79 = .ok (.if_icmp .ne 7, 3) := by decide +kernel
theorem dX11_saying_82 : decode cX11_saying 82 = .ok (.iconst 0, 1) := by decide +kernel
theorem dX11_saying_83 : decode cX11_saying 83 = .ok (.goto 5, 3) := by decide +kernel
theorem dX11_saying_86 : decode cX11_saying 86 = .ok (.iload 4, 2) := by decide +kernel
theorem dX11_saying_88 : decode cX11_saying 88 = .ok (.istore 5, 2) := by decide +kernel
theorem dX11_saying_90 : decode cX11_saying 90 = .ok (.iload 5, 2) := by decide +kernel
theorem dX11_saying_92 : decode cX11_saying 92 = .ok (.bipush 61, 2) := by decide +kernel
theorem dX11_saying_94 : decode cX11_saying 94 = .ok (.if_icmp .ge 77, 3) := by decide +kernel
theorem dX11_saying_97 : decode cX11_saying 97 = .ok (.iload_n 3, 1) := by decide +kernel
theorem dX11_saying_98 : decode cX11_saying 98 = .ok (.iload 4, 2) := by decide +kernel
theorem dX11_saying_100 : decode cX11_saying 100 = .ok (.iload 5, 2) := by decide +kernel
theorem dX11_saying_102 : decode cX11_saying 102 = .ok (.invokestatic 345, 3) := by decide +kernel
theorem dX11_saying_105 : decode cX11_saying 105 = .ok (.iload_n 1, 1) := by decide +kernel
theorem dX11_saying_106 : decode cX11_saying 106 = .ok (.if_icmp .ne 59, 3) := by decide +kernel
theorem dX11_saying_109 : decode cX11_saying 109 = .ok (.aload_n 0, 1) := by decide +kernel
theorem dX11_saying_110 : decode cX11_saying 110 = .ok (.getfield 71, 3) := by decide +kernel
theorem dX11_saying_113 : decode cX11_saying 113 = .ok (.iload 4, 2) := by decide +kernel
theorem dX11_saying_115 : decode cX11_saying 115 = .ok (.laload, 1) := by decide +kernel
theorem dX11_saying_116 : decode cX11_saying 116 = .ok (.aload_n 0, 1) := by decide +kernel
theorem dX11_saying_117 : decode cX11_saying 117 = .ok (.getfield 71, 3) := by decide +kernel
theorem dX11_saying_120 : decode cX11_saying 120 = .ok (.iload 5, 2) := by decide +kernel
theorem dX11_saying_122 : decode cX11_saying 122 = .ok (.laload, 1) := by decide +kernel
theorem dX11_saying_123 : decode cX11_saying 123 = .ok (.ladd, 1) := by decide +kernel
theorem dX11_saying_124 : decode cX11_saying 124 = .ok (.ldc2_w 343, 3) := by decide +kernel
theorem dX11_saying_127 : decode cX11_saying 127 = .ok (.aload_n 0, 1) := by decide +kernel
theorem dX11_saying_128 : decode cX11_saying 128 = .ok (.getfield 155, 3) := by decide +kernel
theorem dX11_saying_131 : decode cX11_saying 131 = .ok (.i2l, 1) := by decide +kernel
theorem dX11_saying_132 : decode cX11_saying 132 = .ok (.lmul, 1) := by decide +kernel
theorem dX11_saying_133 : decode cX11_saying 133 = .ok (.ladd, 1) := by decide +kernel
theorem dX11_saying_134 : decode cX11_saying 134 = .ok (.aload_n 0, 1) := by decide +kernel
theorem dX11_saying_135 : decode cX11_saying 135 = .ok (.getfield 71, 3) := by decide +kernel
theorem dX11_saying_138 : decode cX11_saying 138 = .ok (.iload_n 1, 1) := by decide +kernel
theorem dX11_saying_139 : decode cX11_saying 139 = .ok (.laload, 1) := by decide +kernel
theorem dX11_saying_140 : decode cX11_saying 140 = .ok (.lcmp, 1) := by decide +kernel
theorem dX11_saying_141 : decode cX11_saying 141 = .ok (.ifCond .ne 24, 3) := by decide +kernel
theorem dX11_saying_144 : decode cX11_saying 144 = .ok (.iload_n 2, 1) := by decide +kernel
theorem dX11_saying_145 : decode cX11_saying 145 = .ok (.ifCond .ne 7, 3) := by decide +kernel
theorem dX11_saying_148 : decode cX11_saying 148 = .ok (.iload_n 3, 1) := by decide +kernel
theorem dX11_saying_149 : decode cX11_saying 149 = .ok (.goto 15, 3) := by decide +kernel
theorem dX11_saying_152 : decode cX11_saying 152 = .ok (.iload_n 2, 1) := by decide +kernel
theorem dX11_saying_153 : decode cX11_saying 153 = .ok (.iconst 1, 1) := by decide +kernel
theorem dX11_saying_154 : decode cX11_saying 154 = .ok (.if_icmp .ne 8, 3) := by decide +kernel
theorem dX11_saying_157 : decode cX11_saying 157 = .ok (.iload 4, 2) := by decide +kernel
theorem dX11_saying_159 : decode cX11_saying 159 = .ok (.goto 5, 3) := by decide +kernel
theorem dX11_saying_162 : decode cX11_saying 162 = .ok (.iload 5, 2) := by decide +kernel
theorem dX11_saying_164 : decode cX11_saying 164 = .ok (.ireturn, 1) := by decide +kernel
theorem dX11_saying_165 : decode cX11_saying 165 = .ok (.iinc 5 1, 3) := by decide +kernel
theorem dX11_saying_168 : decode cX11_saying 168 = .ok (.goto (-78), 3) := by decide +kernel
theorem dX11_saying_171 : decode cX11_saying 171 = .ok (.iinc 4 1, 3) := by decide +kernel
theorem dX11_saying_174 : decode cX11_saying 174 = .ok (.goto (-104), 3) := by decide +kernel
theorem dX11_saying_177 : decode cX11_saying 177 = .ok (.iinc 3 1, 3) := by decide +kernel
theorem dX11_saying_180 : decode cX11_saying 180 = .ok (.goto (-118), 3) := by decide +kernel
theorem dX11_saying_183 : decode cX11_saying 183 = .ok (.iconst (-1), 1) := by decide +kernel
theorem dX11_saying_184 : decode cX11_saying 184 = .ok (.ireturn, 1) := by decide +kernel
theorem dX11_out_0 : decode cX11_out 0 = .ok (.aload_n 0, 1) := by decide +kernel
theorem dX11_out_1 : decode cX11_out 1 = .ok (.iconst 0, 1) := by decide +kernel
theorem dX11_out_2 : decode cX11_out 2 = .ok (.putfield 3, 3) := by decide +kernel
theorem dX11_out_5 : decode cX11_out 5 = .ok (.aload_n 0, 1) := by decide +kernel
theorem dX11_out_6 : decode cX11_out 6 = .ok (.iload_n 1, 1) := by decide +kernel
theorem dX11_out_7 : decode cX11_out 7 = .ok (.iconst 1, 1) := by decide +kernel
theorem dX11_out_8 : decode cX11_out 8 = .ok (.invokevirtual 340, 3) := by decide +kernel
theorem dX11_out_11 : decode cX11_out 11 = .ok (.ifCond .ne 5, 3) := by decide +kernel
theorem dX11_out_14 : decode cX11_out 14 = .ok (.iconst 0, 1) := by decide +kernel
theorem dX11_out_15 : decode cX11_out 15 = .ok (.ireturn, 1) := by decide +kernel
theorem dX11_out_16 : decode cX11_out 16 = .ok (.iconst 0, 1) := by decide +kernel
theorem dX11_out_17 : decode cX11_out 17 = .ok (.istore_n 2, 1) := by decide +kernel
theorem dX11_out_18 : decode cX11_out 18 = .ok (.iload_n 2, 1) := by decide +kernel
theorem dX11_out_19 : decode cX11_out 19 = .ok (.bipush 61, 2) := by decide +kernel
theorem dX11_out_21 : decode cX11_out 21 = .ok (.if_icmp .ge 34, 3) := by decide +kernel
theorem dX11_out_24 : decode cX11_out 24 = .ok (.aload_n 0, 1) := by decide +kernel
theorem dX11_out_25 : decode cX11_out 25 = .ok (.getfield 75, 3) := by decide +kernel
theorem dX11_out_28 : decode cX11_out 28 = .ok (.iload_n 2, 1) := by decide +kernel
theorem dX11_out_29 : decode cX11_out 29 = .ok (.aload_n 0, 1) := by decide +kernel
theorem dX11_out_30 : decode cX11_out 30 = .ok (.getfield 56, 3) := by decide +kernel
theorem dX11_out_33 : decode cX11_out 33 = .ok (.bipush 61, 2) := by decide +kernel
theorem dX11_out_35 : decode cX11_out 35 = .ok (.iload_n 2, 1) := by decide +kernel
theorem dX11_out_36 : decode cX11_out 36 = .ok (.iadd, 1) := by decide +kernel
theorem dX11_out_37 : decode cX11_out 37 = .ok (.iaload, 1) := by decide +kernel
theorem dX11_out_38 : decode cX11_out 38 = .ok (.ifCond .ne 7, 3) := by decide +kernel
theorem dX11_out_41 : decode cX11_out 41 = .ok (.iconst 0, 1) := by decide +kernel
theorem dX11_out_42 : decode cX11_out 42 = .ok (.goto 6, 3) := by decide +kernel
theorem dX11_out_45 : decode cX11_out 45 = .ok (.ldc_w 351, 3) := by decide +kernel
theorem dX11_out_48 : decode cX11_out 48 = .ok (.iastore, 1) := by decide +kernel
theorem dX11_out_49 : decode cX11_out 49 = .ok (.iinc 2 1, 3) := by decide +kernel
theorem dX11_out_52 : decode cX11_out 52 = .ok (.goto (-34), 3) := by decide +kernel
theorem dX11_out_55 : decode cX11_out 55 = .ok (.iconst 1, 1) := by decide +kernel
theorem dX11_out_56 : decode cX11_out 56 = .ok (.istore_n 2, 1) := by decide +kernel
theorem dX11_out_57 : decode cX11_out 57 = .ok (.iload_n 2, 1) := by decide +kernel
theorem dX11_out_58 : decode cX11_out 58 = .ok (.ifCond .eq 117, 3) := by decide +kernel
theorem dX11_out_61 : decode cX11_out 61 = .ok (.iconst 0, 1) := by decide +kernel
theorem dX11_out_62 : decode cX11_out 62 = .ok (.istore_n 2, 1) := by decide +kernel
theorem dX11_out_63 : decode cX11_out 63 = .ok (.iconst 1, 1) := by decide +kernel
theorem dX11_out_64 : decode cX11_out 64 = .ok (.istore_n 3, 1) := by decide +kernel
theorem dX11_out_65 : decode cX11_out 65 = .ok (.iload_n 3, 1) := by decide +kernel
theorem dX11_out_66 : decode cX11_out 66 = .ok (.iconst 3, 1) := by decide +kernel
theorem dX11_out_67 : decode cX11_out 67 = .ok (.if_icmp .gt 105, 3) := by decide +kernel
theorem dX11_out_70 : decode cX11_out 70 = .ok (.iconst 0, 1) := by decide +kernel
theorem dX11_out_71 : decode cX11_out 71 = .ok (.istore 4, 2) := by decide +kernel
theorem dX11_out_73 : decode cX11_out 73 = .ok (.iload 4, 2) := by decide +kernel
theorem dX11_out_75 : decode cX11_out 75 = .ok (.sipush 3721, 3) := by decide +kernel
theorem dX11_out_78 : decode cX11_out 78 = .ok (.if_icmp .ge 88, 3) := by decide +kernel
theorem dX11_out_81 : decode cX11_out 81 = .ok (.iload_n 3, 1) := by decide +kernel
theorem dX11_out_82 : decode cX11_out 82 = .ok (.iload 4, 2) := by decide +kernel
theorem dX11_out_84 : decode cX11_out 84 = .ok (.bipush 61, 2) := by decide +kernel
theorem dX11_out_86 : decode cX11_out 86 = .ok (.idiv, 1) := by decide +kernel
theorem dX11_out_87 : decode cX11_out 87 = .ok (.iload 4, 2) := by decide +kernel
theorem dX11_out_89 : decode cX11_out 89 = .ok (.bipush 61, 2) := by decide +kernel
theorem dX11_out_91 : decode cX11_out 91 = .ok (.irem, 1) := by decide +kernel
theorem dX11_out_92 : decode cX11_out 92 = .ok (.invokestatic 345, 3) := by decide +kernel
theorem dX11_out_95 : decode cX11_out 95 = .ok (.istore 5, 2) := by decide +kernel
theorem dX11_out_97 : decode cX11_out 97 = .ok (.aload_n 0, 1) := by decide +kernel
theorem dX11_out_98 : decode cX11_out 98 = .ok (.getfield 75, 3) := by decide +kernel
theorem dX11_out_101 : decode cX11_out 101 = .ok (.iload 4, 2) := by decide +kernel
theorem dX11_out_103 : decode cX11_out 103 = .ok (.bipush 61, 2) := by decide +kernel
theorem dX11_out_105 : decode cX11_out 105 = .ok (.idiv, 1) := by decide +kernel
theorem dX11_out_106 : decode cX11_out 106 = .ok (.iaload, 1) := by decide +kernel
theorem dX11_out_107 : decode cX11_out 107 = .ok (.aload_n 0, 1) := by decide +kernel
theorem dX11_out_108 : decode cX11_out 108 = .ok (.getfield 75, 3) := by decide +kernel
theorem dX11_out_111 : decode cX11_out 111 = .ok (.iload 4, 2) := by decide +kernel
theorem dX11_out_113 : decode cX11_out 113 = .ok (.bipush 61, 2) := by decide +kernel
theorem dX11_out_115 : decode cX11_out 115 = .ok (.irem, 1) := by decide +kernel
theorem dX11_out_116 : decode cX11_out 116 = .ok (.iaload, 1) := by decide +kernel
theorem dX11_out_117 : decode cX11_out 117 = .ok (.iadd, 1) := by decide +kernel
theorem dX11_out_118 : decode cX11_out 118 = .ok (.iconst 1, 1) := by decide +kernel
theorem dX11_out_119 : decode cX11_out 119 = .ok (.iadd, 1) := by decide +kernel
theorem dX11_out_120 : decode cX11_out 120 = .ok (.istore 6, 2) := by decide +kernel
theorem dX11_out_122 : decode cX11_out 122 = .ok (.iload 5, 2) := by decide +kernel
theorem dX11_out_124 : decode cX11_out 124 = .ok (.ifCond .lt 36, 3) := by decide +kernel
theorem dX11_out_127 : decode cX11_out 127 = .ok (.iload 5, 2) := by decide +kernel
theorem dX11_out_129 : decode cX11_out 129 = .ok (.bipush 61, 2) := by decide +kernel
theorem dX11_out_131 : decode cX11_out 131 = .ok (.if_icmp .ge 29, 3) := by decide +kernel
theorem dX11_out_134 : decode cX11_out 134 = .ok (.iload 6, 2) := by decide +kernel
theorem dX11_out_136 : decode cX11_out 136 = .ok (.aload_n 0, 1) := by decide +kernel
theorem dX11_out_137 : decode cX11_out 137 = .ok (.getfield 75, 3) := by decide +kernel
theorem dX11_out_140 : decode cX11_out 140 = .ok (.iload 5, 2) := by decide +kernel
theorem dX11_out_142 : decode cX11_out 142 = .ok (.iaload, 1) := by decide +kernel
theorem dX11_out_143 : decode cX11_out 143 = .ok (.if_icmp .lt 6, 3) := by decide +kernel
theorem dX11_out_146 : decode cX11_out 146 = .ok (.goto 14, 3) := by decide +kernel
theorem dX11_out_149 : decode cX11_out 149 = .ok (.aload_n 0, 1) := by decide +kernel
theorem dX11_out_150 : decode cX11_out 150 = .ok (.getfield 75, 3) := by decide +kernel
theorem dX11_out_153 : decode cX11_out 153 = .ok (.iload 5, 2) := by decide +kernel
theorem dX11_out_155 : decode cX11_out 155 = .ok (.iload 6, 2) := by decide +kernel
theorem dX11_out_157 : decode cX11_out 157 = .ok (.iastore, 1) := by decide +kernel
theorem dX11_out_158 : decode cX11_out 158 = .ok (.iconst 1, 1) := by decide +kernel
theorem dX11_out_159 : decode cX11_out 159 = .ok (.istore_n 2, 1) := by decide +kernel
theorem dX11_out_160 : decode cX11_out 160 = .ok (.iinc 4 1, 3) := by decide +kernel
theorem dX11_out_163 : decode cX11_out 163 = .ok (.goto (-90), 3) := by decide +kernel
theorem dX11_out_166 : decode cX11_out 166 = .ok (.iinc 3 1, 3) := by decide +kernel
theorem dX11_out_169 : decode cX11_out 169 = .ok (.goto (-104), 3) := by decide +kernel
theorem dX11_out_172 : decode cX11_out 172 = .ok (.goto (-115), 3) := by decide +kernel
theorem dX11_out_175 : decode cX11_out 175 = .ok (.aload_n 0, 1) := by decide +kernel
theorem dX11_out_176 : decode cX11_out 176 = .ok (.getfield 75, 3) := by decide +kernel
theorem dX11_out_179 : decode cX11_out 179 = .ok (.iload_n 1, 1) := by decide +kernel
theorem dX11_out_180 : decode cX11_out 180 = .ok (.iaload, 1) := by decide +kernel
theorem dX11_out_181 : decode cX11_out 181 = .ok (.ldc_w 351, 3) := by decide +kernel
theorem dX11_out_184 : decode cX11_out 184 = .ok (.if_icmp .lt 7, 3) := by decide +kernel
theorem dX11_out_187 : decode cX11_out 187 = .ok (.iconst (-1), 1) := by decide +kernel
theorem dX11_out_188 : decode cX11_out 188 = .ok (.goto 9, 3) := by decide +kernel
theorem dX11_out_191 : decode cX11_out 191 = .ok (.aload_n 0, 1) := by decide +kernel
theorem dX11_out_192 : decode cX11_out 192 = .ok (.getfield 75, 3) := by decide +kernel
theorem dX11_out_195 : decode cX11_out 195 = .ok (.iload_n 1, 1) := by decide +kernel
theorem dX11_out_196 : decode cX11_out 196 = .ok (.iaload, 1) := by decide +kernel
theorem dX11_out_197 : decode cX11_out 197 = .ok (.ireturn, 1) := by decide +kernel
theorem dX11_stepCost_0 : decode cX11_stepCost 0 = .ok (.sipush 1000, 3) := by decide +kernel
theorem dX11_stepCost_3 : decode cX11_stepCost 3 = .ok (.aload_n 0, 1) := by decide +kernel
theorem dX11_stepCost_4 : decode cX11_stepCost 4 = .ok (.iload_n 1, 1) := by decide +kernel
theorem dX11_stepCost_5 : decode cX11_stepCost 5 = .ok (.iload_n 1, 1) := by decide +kernel
theorem dX11_stepCost_6 : decode cX11_stepCost 6 = .ok (.iload_n 2, 1) := by decide +kernel
theorem dX11_stepCost_7 : decode cX11_stepCost 7 = .ok (.if_icmp .ne 7, 3) := by decide +kernel
theorem dX11_stepCost_10 : decode cX11_stepCost 10 = .ok (.iconst 1, 1) := by decide +kernel
theorem dX11_stepCost_11 : decode cX11_stepCost 11 = .ok (.goto 4, 3) := by decide +kernel
theorem dX11_stepCost_14 : decode cX11_stepCost 14 = .ok (.iconst 2, 1) := by decide +kernel
theorem dX11_stepCost_15 : decode cX11_stepCost 15 = .ok (.invokevirtual 314, 3) := by decide +kernel
theorem dX11_stepCost_18 : decode cX11_stepCost 18 = .ok (.imul, 1) := by decide +kernel
theorem dX11_stepCost_19 : decode cX11_stepCost 19 = .ok (.iconst 1, 1) := by decide +kernel
theorem dX11_stepCost_20 : decode cX11_stepCost 20 = .ok (.iadd, 1) := by decide +kernel
theorem dX11_stepCost_21 : decode cX11_stepCost 21 = .ok (.ireturn, 1) := by decide +kernel
theorem dX11_layRound_0 : decode cX11_layRound 0 = .ok (.aload_n 0, 1) := by decide +kernel
theorem dX11_layRound_1 : decode cX11_layRound 1 = .ok (.invokevirtual 285, 3) := by decide +kernel
theorem dX11_layRound_4 : decode cX11_layRound 4 = .ok (.iconst 0, 1) := by decide +kernel
theorem dX11_layRound_5 : decode cX11_layRound 5 = .ok (.istore_n 2, 1) := by decide +kernel
theorem dX11_layRound_6 : decode cX11_layRound 6 = .ok (.iload_n 2, 1) := by decide +kernel
theorem dX11_layRound_7 : decode cX11_layRound 7 = .ok (.bipush 61, 2) := by decide +kernel
theorem dX11_layRound_9 : decode cX11_layRound 9 = .ok (.if_icmp .ge 27, 3) := by decide +kernel
theorem dX11_layRound_12 : decode cX11_layRound 12 = .ok (.aload_n 0, 1) := by decide +kernel
theorem dX11_layRound_13 : decode cX11_layRound 13 = .ok (.getfield 78, 3) := by decide +kernel
theorem dX11_layRound_16 : decode cX11_layRound 16 = .ok (.iload_n 2, 1) := by decide +kernel
theorem dX11_layRound_17 : decode cX11_layRound 17 = .ok (.iload_n 2, 1) := by decide +kernel
theorem dX11_layRound_18 : decode cX11_layRound 18 = .ok (.iload_n 1, 1) := by decide +kernel
theorem dX11_layRound_19 : decode cX11_layRound 19 = .ok (.if_icmp .ne 7, 3) := by decide +kernel
theorem dX11_layRound_22 : decode cX11_layRound 22 = .ok (.iconst 0, 1) := by decide +kernel
theorem dX11_layRound_23 : decode cX11_layRound 23 = .ok (.goto 6, 3) := by decide +kernel
theorem dX11_layRound_26 : decode cX11_layRound 26 = .ok (.ldc_w 352, 3) := by decide +kernel
theorem dX11_layRound_29 : decode cX11_layRound 29 = .ok (.iastore, 1) := by decide +kernel
theorem dX11_layRound_30 : decode cX11_layRound 30 = .ok (.iinc 2 1, 3) := by decide +kernel
theorem dX11_layRound_33 : decode cX11_layRound 33 = .ok (.goto (-27), 3) := by decide +kernel
theorem dX11_layRound_36 : decode cX11_layRound 36 = .ok (.iconst 1, 1) := by decide +kernel
theorem dX11_layRound_37 : decode cX11_layRound 37 = .ok (.istore_n 2, 1) := by decide +kernel
theorem dX11_layRound_38 : decode cX11_layRound 38 = .ok (.iload_n 2, 1) := by decide +kernel
theorem dX11_layRound_39 : decode cX11_layRound 39 = .ok (.ifCond .eq 111, 3) := by decide +kernel
theorem dX11_layRound_42 : decode cX11_layRound 42 = .ok (.iconst 0, 1) := by decide +kernel
theorem dX11_layRound_43 : decode cX11_layRound 43 = .ok (.istore_n 2, 1) := by decide +kernel
theorem dX11_layRound_44 : decode cX11_layRound 44 = .ok (.iconst 0, 1) := by decide +kernel
theorem dX11_layRound_45 : decode cX11_layRound 45 = .ok (.istore_n 3, 1) := by decide +kernel
theorem dX11_layRound_46 : decode cX11_layRound 46 = .ok (.iload_n 3, 1) := by decide +kernel
theorem dX11_layRound_47 : decode cX11_layRound 47 = .ok (.bipush 61, 2) := by decide +kernel
theorem dX11_layRound_49 : decode cX11_layRound 49 = .ok (.if_icmp .ge 98, 3) := by decide +kernel
theorem dX11_layRound_52 : decode cX11_layRound 52 = .ok (.iload_n 3, 1) := by decide +kernel
theorem dX11_layRound_53 : decode cX11_layRound 53 = .ok (.iload_n 1, 1) := by decide +kernel
theorem dX11_layRound_54 : decode cX11_layRound 54 = .ok (.if_icmp .ne 6, 3) := by decide +kernel
theorem dX11_layRound_57 : decode cX11_layRound 57 = .ok (.goto 84, 3) := by decide +kernel
theorem dX11_layRound_60 : decode cX11_layRound 60 = .ok (.iload_n 3, 1) := by decide +kernel
theorem dX11_layRound_61 : decode cX11_layRound 61 = .ok (.iconst 3, 1) := by decide +kernel
theorem dX11_layRound_62 : decode cX11_layRound 62 = .ok (.isub, 1) := by decide +kernel
theorem dX11_layRound_63 : decode cX11_layRound 63 = .ok (.istore 4, 2) := by decide +kernel
theorem dX11_layRound_65 : decode cX11_layRound 65 = .ok (.iload 4, 2) := by decide +kernel
theorem dX11_layRound_67 : decode cX11_layRound 67 = .ok (.iload_n 3, 1) := by decide +kernel
theorem dX11_layRound_68 : decode cX11_layRound 68 = .ok (.iconst 3, 1) := by decide +kernel
theorem dX11_layRound_69 : decode cX11_layRound 69 = .ok (.iadd, 1) := by decide +kernel
theorem dX11_layRound_70 : decode cX11_layRound 70 = .ok (.if_icmp .gt 71, 3) := by decide +kernel
theorem dX11_layRound_73 : decode cX11_layRound 73 = .ok (.iload 4, 2) := by decide +kernel
theorem dX11_layRound_75 : decode cX11_layRound 75 = .ok (.ifCond .lt 60, 3) := by decide +kernel
theorem dX11_layRound_78 : decode cX11_layRound 78 = .ok (.iload 4, 2) := by decide +kernel
theorem dX11_layRound_80 : decode cX11_layRound 80 = .ok (.bipush 61, 2) := by decide +kernel
theorem dX11_layRound_82 : decode cX11_layRound 82 = .ok (.if_icmp .ge 53, 3) := by decide +kernel
theorem dX11_layRound_85 : decode cX11_layRound 85 = .ok (.iload 4, 2) := by decide +kernel
theorem dX11_layRound_87 : decode cX11_layRound 87 = .ok (.iload_n 3, 1) := by decide +kernel
theorem dX11_layRound_88 : decode cX11_layRound 88 = .ok (.if_icmp .ne 6, 3) := by decide +kernel
theorem dX11_layRound_91 : decode cX11_layRound 91 = .ok (.goto 44, 3) := by decide +kernel
theorem dX11_layRound_94 : decode cX11_layRound 94 = .ok (.aload_n 0, 1) := by decide +kernel
theorem dX11_layRound_95 : decode cX11_layRound 95 = .ok (.iload 4, 2) := by decide +kernel
theorem dX11_layRound_97 : decode cX11_layRound 97 = .ok (.iload_n 1, 1) := by decide +kernel
theorem dX11_layRound_98 : decode cX11_layRound 98 = .ok (.invokevirtual 353, 3) := by decide +kernel
theorem dX11_layRound_101 : decode cX11_layRound 101 = .ok (.aload_n 0, 1) := by decide +kernel
theorem dX11_layRound_102 : decode cX11_layRound 102 = .ok (.getfield 78, 3) := by decide +kernel
theorem dX11_layRound_105 : decode cX11_layRound 105 = .ok (.iload 4, 2) := by decide +kernel
theorem dX11_layRound_107 : decode cX11_layRound 107 = .ok (.iaload, 1) := by decide +kernel
theorem dX11_layRound_108 : decode cX11_layRound 108 = .ok (.iadd, 1) := by decide +kernel
theorem dX11_layRound_109 : decode cX11_layRound 109 = .ok (.istore 5, 2) := by decide +kernel
theorem dX11_layRound_111 : decode cX11_layRound 111 = .ok (.iload 5, 2) := by decide +kernel
theorem dX11_layRound_113 : decode cX11_layRound 113 = .ok (.aload_n 0, 1) := by decide +kernel
theorem dX11_layRound_114 : decode cX11_layRound 114 = .ok (.getfield 78, 3) := by decide +kernel
theorem dX11_layRound_117 : decode cX11_layRound 117 = .ok (.iload_n 3, 1) := by decide +kernel
theorem dX11_layRound_118 : decode cX11_layRound 118 = .ok (.iaload, 1) := by decide +kernel
theorem dX11_layRound_119 : decode cX11_layRound 119 = .ok (.if_icmp .lt 6, 3) := by decide +kernel
theorem dX11_layRound_122 : decode cX11_layRound 122 = .ok (.goto 13, 3) := by decide +kernel
theorem dX11_layRound_125 : decode cX11_layRound 125 = .ok (.aload_n 0, 1) := by decide +kernel
theorem dX11_layRound_126 : decode cX11_layRound 126 = .ok (.getfield 78, 3) := by decide +kernel
theorem dX11_layRound_129 : decode cX11_layRound 129 = .ok (.iload_n 3, 1) := by decide +kernel
theorem dX11_layRound_130 : decode cX11_layRound 130 = .ok (.iload 5, 2) := by decide +kernel
theorem dX11_layRound_132 : decode cX11_layRound 132 = .ok (.iastore, 1) := by decide +kernel
theorem dX11_layRound_133 : decode cX11_layRound 133 = .ok (.iconst 1, 1) := by decide +kernel
theorem dX11_layRound_134 : decode cX11_layRound 134 = .ok (.istore_n 2, 1) := by decide +kernel
theorem dX11_layRound_135 : decode cX11_layRound 135 = .ok (.iinc 4 1, 3) := by decide +kernel
theorem dX11_layRound_138 : decode cX11_layRound 138 = .ok (.goto (-73), 3) := by decide +kernel
theorem dX11_layRound_141 : decode cX11_layRound 141 = .ok (.iinc 3 1, 3) := by decide +kernel
theorem dX11_layRound_144 : decode cX11_layRound 144 = .ok (.goto (-98), 3) := by decide +kernel
theorem dX11_layRound_147 : decode cX11_layRound 147 = .ok (.goto (-109), 3) := by decide +kernel
theorem dX11_layRound_150 : decode cX11_layRound 150 = .ok (.return_, 1) := by decide +kernel
theorem dX11_round_0 : decode cX11_round 0 = .ok (.aload_n 0, 1) := by decide +kernel
theorem dX11_round_1 : decode cX11_round 1 = .ok (.iconst 0, 1) := by decide +kernel
theorem dX11_round_2 : decode cX11_round 2 = .ok (.putfield 3, 3) := by decide +kernel
theorem dX11_round_5 : decode cX11_round 5 = .ok (.aload_n 0, 1) := by decide +kernel
theorem dX11_round_6 : decode cX11_round 6 = .ok (.iload_n 1, 1) := by decide +kernel
theorem dX11_round_7 : decode cX11_round 7 = .ok (.iconst 1, 1) := by decide +kernel
theorem dX11_round_8 : decode cX11_round 8 = .ok (.invokevirtual 340, 3) := by decide +kernel
theorem dX11_round_11 : decode cX11_round 11 = .ok (.ifCond .eq 27, 3) := by decide +kernel
theorem dX11_round_14 : decode cX11_round 14 = .ok (.aload_n 0, 1) := by decide +kernel
theorem dX11_round_15 : decode cX11_round 15 = .ok (.iload_n 2, 1) := by decide +kernel
theorem dX11_round_16 : decode cX11_round 16 = .ok (.iconst 1, 1) := by decide +kernel
theorem dX11_round_17 : decode cX11_round 17 = .ok (.invokevirtual 340, 3) := by decide +kernel
theorem dX11_round_20 : decode cX11_round 20 = .ok (.ifCond .eq 18, 3) := by decide +kernel
theorem dX11_round_23 : decode cX11_round 23 = .ok (.aload_n 0, 1) := by decide +kernel
theorem dX11_round_24 : decode cX11_round 24 = .ok (.iload_n 3, 1) := by decide +kernel
theorem dX11_round_25 : decode cX11_round 25 = .ok (.iconst 0, 1) := by decide +kernel
theorem dX11_round_26 : decode cX11_round 26 = .ok (.iconst 2, 1) := by decide +kernel
theorem dX11_round_27 : decode cX11_round 27 = .ok (.invokestatic 330, 3) := by decide +kernel
theorem dX11_round_30 : decode cX11_round 30 = .ok (.iconst 2, 1) := by decide +kernel
theorem dX11_round_31 : decode cX11_round 31 = .ok (.iconst 1, 1) := by decide +kernel
theorem dX11_round_32 : decode cX11_round 32 = .ok (.invokevirtual 185, 3) := by decide +kernel
theorem dX11_round_35 : decode cX11_round 35 = .ok (.ifCond .ne 5, 3) := by decide +kernel
theorem dX11_round_38 : decode cX11_round 38 = .ok (.iconst 0, 1) := by decide +kernel
theorem dX11_round_39 : decode cX11_round 39 = .ok (.ireturn, 1) := by decide +kernel
theorem dX11_round_40 : decode cX11_round 40 = .ok (.aload_n 0, 1) := by decide +kernel
theorem dX11_round_41 : decode cX11_round 41 = .ok (.iload_n 2, 1) := by decide +kernel
theorem dX11_round_42 : decode cX11_round 42 = .ok (.invokevirtual 356, 3) := by decide +kernel
theorem dX11_round_45 : decode cX11_round 45 = .ok (.iload_n 3, 1) := by decide +kernel
theorem dX11_round_46 : decode cX11_round 46 = .ok (.iconst 2, 1) := by decide +kernel
theorem dX11_round_47 : decode cX11_round 47 = .ok (.if_icmp .ge 31, 3) := by decide +kernel
theorem dX11_round_50 : decode cX11_round 50 = .ok (.iload_n 3, 1) := by decide +kernel
theorem dX11_round_51 : decode cX11_round 51 = .ok (.ifCond .ne 16, 3) := by decide +kernel
theorem dX11_round_54 : decode cX11_round 54 = .ok (.aload_n 0, 1) := by decide +kernel
theorem dX11_round_55 : decode cX11_round 55 = .ok (.getfield 78, 3) := by decide +kernel
theorem dX11_round_58 : decode cX11_round 58 = .ok (.iload_n 1, 1) := by decide +kernel
theorem dX11_round_59 : decode cX11_round 59 = .ok (.iaload, 1) := by decide +kernel
theorem dX11_round_60 : decode cX11_round 60 = .ok (.sipush 1000, 3) := by decide +kernel
theorem dX11_round_63 : decode cX11_round 63 = .ok (.idiv, 1) := by decide +kernel
theorem dX11_round_64 : decode cX11_round 64 = .ok (.goto 13, 3) := by decide +kernel
theorem dX11_round_67 : decode cX11_round 67 = .ok (.aload_n 0, 1) := by decide +kernel
theorem dX11_round_68 : decode cX11_round 68 = .ok (.getfield 78, 3) := by decide +kernel
theorem dX11_round_71 : decode cX11_round 71 = .ok (.iload_n 1, 1) := by decide +kernel
theorem dX11_round_72 : decode cX11_round 72 = .ok (.iaload, 1) := by decide +kernel
theorem dX11_round_73 : decode cX11_round 73 = .ok (.sipush 1000, 3) := by decide +kernel
theorem dX11_round_76 : decode cX11_round 76 = .ok (.irem, 1) := by decide +kernel
theorem dX11_round_77 : decode cX11_round 77 = .ok (.ireturn, 1) := by decide +kernel
theorem dX11_round_78 : decode cX11_round 78 = .ok (.iload_n 1, 1) := by decide +kernel
theorem dX11_round_79 : decode cX11_round 79 = .ok (.iload_n 2, 1) := by decide +kernel
theorem dX11_round_80 : decode cX11_round 80 = .ok (.if_icmp .ne 5, 3) := by decide +kernel
theorem dX11_round_83 : decode cX11_round 83 = .ok (.iconst (-1), 1) := by decide +kernel
theorem dX11_round_84 : decode cX11_round 84 = .ok (.ireturn, 1) := by decide +kernel
theorem dX11_round_85 : decode cX11_round 85 = .ok (.iload_n 1, 1) := by decide +kernel
theorem dX11_round_86 : decode cX11_round 86 = .ok (.iconst 3, 1) := by decide +kernel
theorem dX11_round_87 : decode cX11_round 87 = .ok (.isub, 1) := by decide +kernel
theorem dX11_round_88 : decode cX11_round 88 = .ok (.istore 4, 2) := by decide +kernel
theorem dX11_round_90 : decode cX11_round 90 = .ok (.iload 4, 2) := by decide +kernel
theorem dX11_round_92 : decode cX11_round 92 = .ok (.iload_n 1, 1) := by decide +kernel
theorem dX11_round_93 : decode cX11_round 93 = .ok (.iconst 3, 1) := by decide +kernel
theorem dX11_round_94 : decode cX11_round 94 = .ok (.iadd, 1) := by decide +kernel
theorem dX11_round_95 : decode cX11_round 95 = .ok (.if_icmp .gt 54, 3) := by decide +kernel
theorem dX11_round_98 : decode cX11_round 98 = .ok (.iload 4, 2) := by decide +kernel
theorem dX11_round_100 : decode cX11_round 100 = .ok (.ifCond .lt 43, 3) := by decide +kernel
theorem dX11_round_103 : decode cX11_round 103 = .ok (.iload 4, 2) := by decide +kernel
theorem dX11_round_105 : decode cX11_round 105 = .ok (.bipush 61, 2) := by decide +kernel
theorem dX11_round_107 : decode cX11_round 107 = .ok (.if_icmp .ge 36, 3) := by decide +kernel
theorem dX11_round_110 : decode cX11_round 110 = .ok (.iload 4, 2) := by decide +kernel
theorem dX11_round_112 : decode cX11_round 112 = .ok (.iload_n 1, 1) := by decide +kernel
theorem dX11_round_113 : decode cX11_round 113 = .ok (.if_icmp .eq 30, 3) := by decide +kernel
theorem dX11_round_116 : decode cX11_round 116 = .ok (.aload_n 0, 1) := by decide +kernel
theorem dX11_round_117 : decode cX11_round 117 = .ok (.iload 4, 2) := by decide +kernel
theorem dX11_round_119 : decode cX11_round 119 = .ok (.iload_n 2, 1) := by decide +kernel
theorem dX11_round_120 : decode cX11_round 120 = .ok (.invokevirtual 353, 3) := by decide +kernel
theorem dX11_round_123 : decode cX11_round 123 = .ok (.aload_n 0, 1) := by decide +kernel
theorem dX11_round_124 : decode cX11_round 124 = .ok (.getfield 78, 3) := by decide +kernel
theorem dX11_round_127 : decode cX11_round 127 = .ok (.iload 4, 2) := by decide +kernel
theorem dX11_round_129 : decode cX11_round 129 = .ok (.iaload, 1) := by decide +kernel
theorem dX11_round_130 : decode cX11_round 130 = .ok (.iadd, 1) := by decide +kernel
theorem dX11_round_131 : decode cX11_round 131 = .ok (.aload_n 0, 1) := by decide +kernel
theorem dX11_round_132 : decode cX11_round 132 = .ok (.getfield 78, 3) := by decide +kernel
theorem dX11_round_135 : decode cX11_round 135 = .ok (.iload_n 1, 1) := by decide +kernel
theorem dX11_round_136 : decode cX11_round 136 = .ok (.iaload, 1) := by decide +kernel
theorem dX11_round_137 : decode cX11_round 137 = .ok (.if_icmp .ne 6, 3) := by decide +kernel
theorem dX11_round_140 : decode cX11_round 140 = .ok (.iload 4, 2) := by decide +kernel
theorem dX11_round_142 : decode cX11_round 142 = .ok (.ireturn, 1) := by decide +kernel
theorem dX11_round_143 : decode cX11_round 143 = .ok (.iinc 4 1, 3) := by decide +kernel
theorem dX11_round_146 : decode cX11_round 146 = .ok (.goto (-56), 3) := by decide +kernel
theorem dX11_round_149 : decode cX11_round 149 = .ok (.iconst (-1), 1) := by decide +kernel
theorem dX11_round_150 : decode cX11_round 150 = .ok (.ireturn, 1) := by decide +kernel
theorem dX11_findBuy_0 : decode cX11_findBuy 0 = .ok (.aload_n 0, 1) := by decide +kernel
theorem dX11_findBuy_1 : decode cX11_findBuy 1 = .ok (.invokevirtual 285, 3) := by decide +kernel
theorem dX11_findBuy_4 : decode cX11_findBuy 4 = .ok (.aload_n 0, 1) := by decide +kernel
theorem dX11_findBuy_5 : decode cX11_findBuy 5 = .ok (.iconst (-1), 1) := by decide +kernel
theorem dX11_findBuy_6 : decode cX11_findBuy 6 = .ok (.putfield 359, 3) := by decide +kernel
theorem dX11_findBuy_9 : decode cX11_findBuy 9 = .ok (.aload_n 0, 1) := by decide +kernel
theorem dX11_findBuy_10 : decode cX11_findBuy 10 = .ok (.iconst 0, 1) := by decide +kernel
theorem dX11_findBuy_11 : decode cX11_findBuy 11 = .ok (.putfield 362, 3) := by decide +kernel
theorem dX11_findBuy_14 : decode cX11_findBuy 14 = .ok (.iconst 0, 1) := by decide +kernel
theorem dX11_findBuy_15 : decode cX11_findBuy 15 = .ok (.istore_n 2, 1) := by decide +kernel
theorem dX11_findBuy_16 : decode cX11_findBuy 16 = .ok (.iload_n 2, 1) := by decide +kernel
theorem dX11_findBuy_17 : decode cX11_findBuy 17 = .ok (.iconst 1, 1) := by decide +kernel
theorem dX11_findBuy_18 : decode cX11_findBuy 18 = .ok (.aload_n 0, 1) := by decide +kernel
theorem dX11_findBuy_19 : decode cX11_findBuy 19 = .ok (.getfield 161, 3) := by decide +kernel
theorem dX11_findBuy_22 : decode cX11_findBuy 22 = .ok (.ishl, 1) := by decide +kernel
theorem dX11_findBuy_23 : decode cX11_findBuy 23 = .ok (.if_icmp .ge 158, 3) := by decide +kernel
theorem dX11_findBuy_26 : decode cX11_findBuy 26 = .ok (.iconst 0, 1) := by decide +kernel
theorem dX11_findBuy_27 : decode cX11_findBuy 27 = .ok (.istore_n 3, 1) := by decide +kernel
theorem dX11_findBuy_28 : decode cX11_findBuy 28 = .ok (.iconst 0, 1) := by decide +kernel
theorem dX11_findBuy_29 : decode cX11_findBuy 29 = .ok (.istore 4, 2) := by decide +kernel
theorem dX11_findBuy_31 : decode cX11_findBuy 31 = .ok (.iconst 1, 1) := by decide +kernel
theorem dX11_findBuy_32 : decode cX11_findBuy 32 = .ok (.istore 5, 2) := by decide +kernel
theorem dX11_findBuy_34 : decode cX11_findBuy 34 = .ok (.iconst 0, 1) := by decide +kernel
theorem dX11_findBuy_35 : decode cX11_findBuy 35 = .ok (.istore 6, 2) := by decide +kernel
theorem dX11_findBuy_37 : decode cX11_findBuy 37 = .ok (.iload 6, 2) := by decide +kernel
theorem dX11_findBuy_39 : decode cX11_findBuy 39 = .ok (.aload_n 0, 1) := by decide +kernel
theorem dX11_findBuy_40 : decode cX11_findBuy 40 = .ok (.getfield 161, 3) := by decide +kernel
theorem dX11_findBuy_43 : decode cX11_findBuy 43 = .ok (.if_icmp .ge 99, 3) := by decide +kernel
theorem dX11_findBuy_46 : decode cX11_findBuy 46 = .ok (.iload_n 2, 1) := by decide +kernel
theorem dX11_findBuy_47 : decode cX11_findBuy 47 = .ok (.iload 6, 2) := by decide +kernel
theorem dX11_findBuy_49 : decode cX11_findBuy 49 = .ok (.ishr, 1) := by decide +kernel
theorem dX11_findBuy_50 : decode cX11_findBuy 50 = .ok (.iconst 1, 1) := by decide +kernel
theorem dX11_findBuy_51 : decode cX11_findBuy 51 = .ok (.iand, 1) := by decide +kernel
theorem dX11_findBuy_52 : decode cX11_findBuy 52 = .ok (.ifCond .ne 6, 3) := by decide +kernel
theorem dX11_findBuy_55 : decode cX11_findBuy 55 = .ok (.goto 81, 3) := by decide +kernel
theorem dX11_findBuy_58 : decode cX11_findBuy 58 = .ok (.aload_n 0, 1) := by decide +kernel
theorem dX11_findBuy_59 : decode cX11_findBuy 59 = .ok (.getfield 68, 3) := by decide +kernel
theorem dX11_findBuy_62 : decode cX11_findBuy 62 = .ok (.iconst 2, 1) := by decide +kernel
theorem dX11_findBuy_63 : decode cX11_findBuy 63 = .ok (.iload 6, 2) := by decide +kernel
theorem dX11_findBuy_65 : decode cX11_findBuy 65 = .ok (.imul, 1) := by decide +kernel
theorem dX11_findBuy_66 : decode cX11_findBuy 66 = .ok (.iaload, 1) := by decide +kernel
theorem dX11_findBuy_67 : decode cX11_findBuy 67 = .ok (.istore 7, 2) := by decide +kernel
theorem dX11_findBuy_69 : decode cX11_findBuy 69 = .ok (.iload 5, 2) := by decide +kernel
theorem dX11_findBuy_71 : decode cX11_findBuy 71 = .ok (.ifCond .eq 20, 3) := by decide +kernel
theorem dX11_findBuy_74 : decode cX11_findBuy 74 = .ok (.aload_n 0, 1) := by decide +kernel
theorem dX11_findBuy_75 : decode cX11_findBuy 75 = .ok (.getfield 59, 3) := by decide +kernel
theorem dX11_findBuy_78 : decode cX11_findBuy 78 = .ok (.iconst 0, 1) := by decide +kernel
theorem dX11_findBuy_79 : decode cX11_findBuy 79 = .ok (.iload 7, 2) := by decide +kernel
theorem dX11_findBuy_81 : decode cX11_findBuy 81 = .ok (.iadd, 1) := by decide +kernel
theorem dX11_findBuy_82 : decode cX11_findBuy 82 = .ok (.iaload, 1) := by decide +kernel
theorem dX11_findBuy_83 : decode cX11_findBuy 83 = .ok (.iconst (-1), 1) := by decide +kernel
theorem dX11_findBuy_84 : decode cX11_findBuy 84 = .ok (.if_icmp .eq 7, 3) := by decide +kernel
theorem dX11_findBuy_87 : decode cX11_findBuy 87 = .ok (.iconst 1, 1) := by decide +kernel
theorem dX11_findBuy_88 : decode cX11_findBuy 88 = .ok (.goto 4, 3) := by decide +kernel
theorem dX11_findBuy_91 : decode cX11_findBuy 91 = .ok (.iconst 0, 1) := by decide +kernel
theorem dX11_findBuy_92 : decode cX11_findBuy 92 = .ok (.istore 5, 2) := by decide +kernel
theorem dX11_findBuy_94 : decode cX11_findBuy 94 = .ok (.iload_n 3, 1) := by decide +kernel
theorem dX11_findBuy_95 : decode cX11_findBuy 95 = .ok (.bipush 10, 2) := by decide +kernel
theorem dX11_findBuy_97 : decode cX11_findBuy 97 = .ok (.aload_n 0, 1) := by decide +kernel
theorem dX11_findBuy_98 : decode cX11_findBuy 98 = .ok (.getfield 59, 3) := by decide +kernel
theorem dX11_findBuy_101 : decode cX11_findBuy 101 = .ok (.bipush 61, 2) := by decide +kernel
theorem dX11_findBuy_103 : decode cX11_findBuy 103 = .ok (.iload 7, 2) := by decide +kernel
theorem dX11_findBuy_105 : decode cX11_findBuy 105 = .ok (.iadd, 1) := by decide +kernel
theorem dX11_findBuy_106 : decode cX11_findBuy 106 = .ok (.iaload, 1) := by decide +kernel
theorem dX11_findBuy_107 : decode cX11_findBuy 107 = .ok (.imul, 1) := by decide +kernel
theorem dX11_findBuy_108 : decode cX11_findBuy 108 = .ok (.iconst 1, 1) := by decide +kernel
theorem dX11_findBuy_109 : decode cX11_findBuy 109 = .ok (.iadd, 1) := by decide +kernel
theorem dX11_findBuy_110 : decode cX11_findBuy 110 = .ok (.iadd, 1) := by decide +kernel
theorem dX11_findBuy_111 : decode cX11_findBuy 111 = .ok (.istore_n 3, 1) := by decide +kernel
theorem dX11_findBuy_112 : decode cX11_findBuy 112 = .ok (.iload 4, 2) := by decide +kernel
theorem dX11_findBuy_114 : decode cX11_findBuy 114 = .ok (.aload_n 0, 1) := by decide +kernel
theorem dX11_findBuy_115 : decode cX11_findBuy 115 = .ok (.iload 7, 2) := by decide +kernel
theorem dX11_findBuy_117 : decode cX11_findBuy 117 = .ok (.iconst 1, 1) := by decide +kernel
theorem dX11_findBuy_118 : decode cX11_findBuy 118 = .ok (.invokevirtual 314, 3) := by decide +kernel
theorem dX11_findBuy_121 : decode cX11_findBuy 121 = .ok (.aload_n 0, 1) := by decide +kernel
theorem dX11_findBuy_122 : decode cX11_findBuy 122 = .ok (.getfield 68, 3) := by decide +kernel
theorem dX11_findBuy_125 : decode cX11_findBuy 125 = .ok (.iconst 2, 1) := by decide +kernel
theorem dX11_findBuy_126 : decode cX11_findBuy 126 = .ok (.iload 6, 2) := by decide +kernel
theorem dX11_findBuy_128 : decode cX11_findBuy 128 = .ok (.imul, 1) := by decide +kernel
theorem dX11_findBuy_129 : decode cX11_findBuy 129 = .ok (.iconst 1, 1) := by decide +kernel
theorem dX11_findBuy_130 : decode cX11_findBuy 130 = .ok (.iadd, 1) := by decide +kernel
theorem dX11_findBuy_131 : decode cX11_findBuy 131 = .ok (.iaload, 1) := by decide +kernel
theorem dX11_findBuy_132 : decode cX11_findBuy 132 = .ok (.imul, 1) := by decide +kernel
theorem dX11_findBuy_133 : decode cX11_findBuy 133 = .ok (.iadd, 1) := by decide +kernel
theorem dX11_findBuy_134 : decode cX11_findBuy 134 = .ok (.istore 4, 2) := by decide +kernel
theorem dX11_findBuy_136 : decode cX11_findBuy 136 = .ok (.iinc 6 1, 3) := by decide +kernel
theorem dX11_findBuy_139 : decode cX11_findBuy 139 = .ok (.goto (-102), 3) := by decide +kernel
theorem dX11_findBuy_142 : decode cX11_findBuy 142 = .ok (.iload 5, 2) := by decide +kernel
theorem dX11_findBuy_144 : decode cX11_findBuy 144 = .ok (.ifCond .eq 31, 3) := by decide +kernel
theorem dX11_findBuy_147 : decode cX11_findBuy 147 = .ok (.iload_n 3, 1) := by decide +kernel
theorem dX11_findBuy_148 : decode cX11_findBuy 148 = .ok (.iload_n 1, 1) := by decide +kernel
theorem dX11_findBuy_149 : decode cX11_findBuy 149 = .ok (.if_icmp .gt 26, 3) := by decide +kernel
theorem dX11_findBuy_152 : decode cX11_findBuy 152 = .ok (.iload 4, 2) := by decide +kernel
theorem dX11_findBuy_154 : decode cX11_findBuy 154 = .ok (.aload_n 0, 1) := by decide +kernel
theorem dX11_findBuy_155 : decode cX11_findBuy 155 = .ok (.getfield 359, 3) := by decide +kernel
theorem dX11_findBuy_158 : decode cX11_findBuy 158 = .ok (.if_icmp .gt 6, 3) := by decide +kernel
theorem dX11_findBuy_161 : decode cX11_findBuy 161 = .ok (.goto 14, 3) := by decide +kernel
theorem dX11_findBuy_164 : decode cX11_findBuy 164 = .ok (.aload_n 0, 1) := by decide +kernel
theorem dX11_findBuy_165 : decode cX11_findBuy 165 = .ok (.iload 4, 2) := by decide +kernel
theorem dX11_findBuy_167 : decode cX11_findBuy 167 = .ok (.putfield 359, 3) := by decide +kernel
theorem dX11_findBuy_170 : decode cX11_findBuy 170 = .ok (.aload_n 0, 1) := by decide +kernel
theorem dX11_findBuy_171 : decode cX11_findBuy 171 = .ok (.iload_n 2, 1) := by decide +kernel
theorem dX11_findBuy_172 : decode cX11_findBuy 172 = .ok (.putfield 362, 3) := by decide +kernel
theorem dX11_findBuy_175 : decode cX11_findBuy 175 = .ok (.iinc 2 1, 3) := by decide +kernel
theorem dX11_findBuy_178 : decode cX11_findBuy 178 = .ok (.goto (-162), 3) := by decide +kernel
theorem dX11_findBuy_181 : decode cX11_findBuy 181 = .ok (.return_, 1) := by decide +kernel
theorem dX11_buy_0 : decode cX11_buy 0 = .ok (.aload_n 0, 1) := by decide +kernel
theorem dX11_buy_1 : decode cX11_buy 1 = .ok (.iconst 0, 1) := by decide +kernel
theorem dX11_buy_2 : decode cX11_buy 2 = .ok (.putfield 3, 3) := by decide +kernel
theorem dX11_buy_5 : decode cX11_buy 5 = .ok (.aload_n 0, 1) := by decide +kernel
theorem dX11_buy_6 : decode cX11_buy 6 = .ok (.iload_n 1, 1) := by decide +kernel
theorem dX11_buy_7 : decode cX11_buy 7 = .ok (.iconst 0, 1) := by decide +kernel
theorem dX11_buy_8 : decode cX11_buy 8 = .ok (.sipush 9999, 3) := by decide +kernel
theorem dX11_buy_11 : decode cX11_buy 11 = .ok (.invokestatic 330, 3) := by decide +kernel
theorem dX11_buy_14 : decode cX11_buy 14 = .ok (.ifCond .eq 16, 3) := by decide +kernel
theorem dX11_buy_17 : decode cX11_buy 17 = .ok (.iload_n 2, 1) := by decide +kernel
theorem dX11_buy_18 : decode cX11_buy 18 = .ok (.iconst 0, 1) := by decide +kernel
theorem dX11_buy_19 : decode cX11_buy 19 = .ok (.iconst 1, 1) := by decide +kernel
theorem dX11_buy_20 : decode cX11_buy 20 = .ok (.invokestatic 330, 3) := by decide +kernel
theorem dX11_buy_23 : decode cX11_buy 23 = .ok (.ifCond .eq 7, 3) := by decide +kernel
theorem dX11_buy_26 : decode cX11_buy 26 = .ok (.iconst 1, 1) := by decide +kernel
theorem dX11_buy_27 : decode cX11_buy 27 = .ok (.goto 4, 3) := by decide +kernel
theorem dX11_buy_30 : decode cX11_buy 30 = .ok (.iconst 0, 1) := by decide +kernel
theorem dX11_buy_31 : decode cX11_buy 31 = .ok (.iconst 1, 1) := by decide +kernel
theorem dX11_buy_32 : decode cX11_buy 32 = .ok (.iconst 1, 1) := by decide +kernel
theorem dX11_buy_33 : decode cX11_buy 33 = .ok (.invokevirtual 185, 3) := by decide +kernel
theorem dX11_buy_36 : decode cX11_buy 36 = .ok (.ifCond .ne 5, 3) := by decide +kernel
theorem dX11_buy_39 : decode cX11_buy 39 = .ok (.iconst 0, 1) := by decide +kernel
theorem dX11_buy_40 : decode cX11_buy 40 = .ok (.ireturn, 1) := by decide +kernel
theorem dX11_buy_41 : decode cX11_buy 41 = .ok (.aload_n 0, 1) := by decide +kernel
theorem dX11_buy_42 : decode cX11_buy 42 = .ok (.iload_n 1, 1) := by decide +kernel
theorem dX11_buy_43 : decode cX11_buy 43 = .ok (.invokevirtual 365, 3) := by decide +kernel
theorem dX11_buy_46 : decode cX11_buy 46 = .ok (.iload_n 2, 1) := by decide +kernel
theorem dX11_buy_47 : decode cX11_buy 47 = .ok (.ifCond .ne 10, 3) := by decide +kernel
theorem dX11_buy_50 : decode cX11_buy 50 = .ok (.aload_n 0, 1) := by decide +kernel
theorem dX11_buy_51 : decode cX11_buy 51 = .ok (.getfield 359, 3) := by decide +kernel
theorem dX11_buy_54 : decode cX11_buy 54 = .ok (.goto 7, 3) := by decide +kernel
theorem dX11_buy_57 : decode cX11_buy 57 = .ok (.aload_n 0, 1) := by decide +kernel
theorem dX11_buy_58 : decode cX11_buy 58 = .ok (.getfield 362, 3) := by decide +kernel
theorem dX11_buy_61 : decode cX11_buy 61 = .ok (.ireturn, 1) := by decide +kernel
theorem dX11_meetsOn_0 : decode cX11_meetsOn 0 = .ok (.iload_n 2, 1) := by decide +kernel
theorem dX11_meetsOn_1 : decode cX11_meetsOn 1 = .ok (.ifCond .ne 93, 3) := by decide +kernel
theorem dX11_meetsOn_4 : decode cX11_meetsOn 4 = .ok (.iload_n 3, 1) := by decide +kernel
theorem dX11_meetsOn_5 : decode cX11_meetsOn 5 = .ok (.ifCond .eq 4, 3) := by decide +kernel
theorem dX11_meetsOn_8 : decode cX11_meetsOn 8 = .ok (.return_, 1) := by decide +kernel
theorem dX11_meetsOn_9 : decode cX11_meetsOn 9 = .ok (.aload_n 0, 1) := by decide +kernel
theorem dX11_meetsOn_10 : decode cX11_meetsOn 10 = .ok (.dup, 1) := by decide +kernel
theorem dX11_meetsOn_11 : decode cX11_meetsOn 11 = .ok (.getfield 368, 3) := by decide +kernel
theorem dX11_meetsOn_14 : decode cX11_meetsOn 14 = .ok (.iconst 1, 1) := by decide +kernel
theorem dX11_meetsOn_15 : decode cX11_meetsOn 15 = .ok (.iadd, 1) := by decide +kernel
theorem dX11_meetsOn_16 : decode cX11_meetsOn 16 = .ok (.putfield 368, 3) := by decide +kernel
theorem dX11_meetsOn_19 : decode cX11_meetsOn 19 = .ok (.aload_n 0, 1) := by decide +kernel
theorem dX11_meetsOn_20 : decode cX11_meetsOn 20 = .ok (.aload_n 0, 1) := by decide +kernel
theorem dX11_meetsOn_21 : decode cX11_meetsOn 21 = .ok (.getfield 371, 3) := by decide +kernel
theorem dX11_meetsOn_24 : decode cX11_meetsOn 24 = .ok (.iconst (-1), 1) := by decide +kernel
theorem dX11_meetsOn_25 : decode cX11_meetsOn 25 = .ok (.if_icmp .ne 8, 3) := by decide +kernel
theorem dX11_meetsOn_28 : decode cX11_meetsOn 28 = .ok (.iload 4, 2) := by decide +kernel
theorem dX11_meetsOn_30 : decode cX11_meetsOn 30 = .ok (.goto 7, 3) := by decide +kernel
theorem dX11_meetsOn_33 : decode cX11_meetsOn 33 = .ok (.aload_n 0, 1) := by decide +kernel
theorem dX11_meetsOn_34 : decode cX11_meetsOn 34 = .ok (.getfield 371, 3) := by decide +kernel
theorem dX11_meetsOn_37 : decode cX11_meetsOn 37 = .ok (.putfield 371, 3) := by decide +kernel
theorem dX11_meetsOn_40 : decode cX11_meetsOn 40 = .ok (.iconst (-1), 1) := by decide +kernel
theorem dX11_meetsOn_41 : decode cX11_meetsOn 41 = .ok (.istore 5, 2) := by decide +kernel
theorem dX11_meetsOn_43 : decode cX11_meetsOn 43 = .ok (.iload 4, 2) := by decide +kernel
theorem dX11_meetsOn_45 : decode cX11_meetsOn 45 = .ok (.istore 6, 2) := by decide +kernel
theorem dX11_meetsOn_47 : decode cX11_meetsOn 47 = .ok (.iload 6, 2) := by decide +kernel
theorem dX11_meetsOn_49 : decode cX11_meetsOn 49 = .ok (.ifCond .le 44, 3) := by decide +kernel
theorem dX11_meetsOn_52 : decode cX11_meetsOn 52 = .ok (.iload 6, 2) := by decide +kernel
theorem dX11_meetsOn_54 : decode cX11_meetsOn 54 = .ok (.bipush 100, 2) := by decide +kernel
theorem dX11_meetsOn_56 : decode cX11_meetsOn 56 = .ok (.irem, 1) := by decide +kernel
theorem dX11_meetsOn_57 : decode cX11_meetsOn 57 = .ok (.iload 5, 2) := by decide +kernel
theorem dX11_meetsOn_59 : decode cX11_meetsOn 59 = .ok (.if_icmp .eq 17, 3) := by decide +kernel
theorem dX11_meetsOn_62 : decode cX11_meetsOn 62 = .ok (.aload_n 0, 1) := by decide +kernel
theorem dX11_meetsOn_63 : decode cX11_meetsOn 63 = .ok (.getfield 81, 3) := by decide +kernel
theorem dX11_meetsOn_66 : decode cX11_meetsOn 66 = .ok (.iload 6, 2) := by decide +kernel
theorem dX11_meetsOn_68 : decode cX11_meetsOn 68 = .ok (.bipush 100, 2) := by decide +kernel
theorem dX11_meetsOn_70 : decode cX11_meetsOn 70 = .ok (.irem, 1) := by decide +kernel
theorem dX11_meetsOn_71 : decode cX11_meetsOn 71 = .ok (.dup2, 1) := by decide +kernel
theorem dX11_meetsOn_72 : decode cX11_meetsOn 72 = .ok (.iaload, 1) := by decide +kernel
theorem dX11_meetsOn_73 : decode cX11_meetsOn 73 = .ok (.iconst 1, 1) := by decide +kernel
theorem dX11_meetsOn_74 : decode cX11_meetsOn 74 = .ok (.iadd, 1) := by decide +kernel
theorem dX11_meetsOn_75 : decode cX11_meetsOn 75 = .ok (.iastore, 1) := by decide +kernel
theorem dX11_meetsOn_76 : decode cX11_meetsOn 76 = .ok (.iload 6, 2) := by decide +kernel
theorem dX11_meetsOn_78 : decode cX11_meetsOn 78 = .ok (.bipush 100, 2) := by decide +kernel
theorem dX11_meetsOn_80 : decode cX11_meetsOn 80 = .ok (.irem, 1) := by decide +kernel
theorem dX11_meetsOn_81 : decode cX11_meetsOn 81 = .ok (.istore 5, 2) := by decide +kernel
theorem dX11_meetsOn_83 : decode cX11_meetsOn 83 = .ok (.iload 6, 2) := by decide +kernel
theorem dX11_meetsOn_85 : decode cX11_meetsOn 85 = .ok (.bipush 100, 2) := by decide +kernel
theorem dX11_meetsOn_87 : decode cX11_meetsOn 87 = .ok (.idiv, 1) := by decide +kernel
theorem dX11_meetsOn_88 : decode cX11_meetsOn 88 = .ok (.istore 6, 2) := by decide +kernel
theorem dX11_meetsOn_90 : decode cX11_meetsOn 90 = .ok (.goto (-43), 3) := by decide +kernel
theorem dX11_meetsOn_93 : decode cX11_meetsOn 93 = .ok (.return_, 1) := by decide +kernel
theorem dX11_meetsOn_94 : decode cX11_meetsOn 94 = .ok (.iload_n 1, 1) := by decide +kernel
theorem dX11_meetsOn_95 : decode cX11_meetsOn 95 = .ok (.istore 5, 2) := by decide +kernel
theorem dX11_meetsOn_97 : decode cX11_meetsOn 97 = .ok (.iload 5, 2) := by decide +kernel
theorem dX11_meetsOn_99 : decode cX11_meetsOn 99 = .ok (.bipush 61, 2) := by decide +kernel
theorem dX11_meetsOn_101 : decode cX11_meetsOn 101 = .ok (.if_icmp .ge 46, 3) := by decide +kernel
theorem dX11_meetsOn_104 : decode cX11_meetsOn 104 = .ok (.aload_n 0, 1) := by decide +kernel
theorem dX11_meetsOn_105 : decode cX11_meetsOn 105 = .ok (.getfield 84, 3) := by decide +kernel
theorem dX11_meetsOn_108 : decode cX11_meetsOn 108 = .ok (.iload 5, 2) := by decide +kernel
theorem dX11_meetsOn_110 : decode cX11_meetsOn 110 = .ok (.iaload, 1) := by decide +kernel
theorem dX11_meetsOn_111 : decode cX11_meetsOn 111 = .ok (.iload_n 3, 1) := by decide +kernel
theorem dX11_meetsOn_112 : decode cX11_meetsOn 112 = .ok (.if_icmp .gt 29, 3) := by decide +kernel
theorem dX11_meetsOn_115 : decode cX11_meetsOn 115 = .ok (.aload_n 0, 1) := by decide +kernel
theorem dX11_meetsOn_116 : decode cX11_meetsOn 116 = .ok (.iload 5, 2) := by decide +kernel
theorem dX11_meetsOn_118 : decode cX11_meetsOn 118 = .ok (.iload_n 2, 1) := by decide +kernel
theorem dX11_meetsOn_119 : decode cX11_meetsOn 119 = .ok (.iconst 1, 1) := by decide +kernel
theorem dX11_meetsOn_120 : decode cX11_meetsOn 120 = .ok (.isub, 1) := by decide +kernel
theorem dX11_meetsOn_121 : decode cX11_meetsOn 121 = .ok (.iload_n 3, 1) := by decide +kernel
theorem dX11_meetsOn_122 : decode cX11_meetsOn 122 = .ok (.aload_n 0, 1) := by decide +kernel
theorem dX11_meetsOn_123 : decode cX11_meetsOn 123 = .ok (.getfield 84, 3) := by decide +kernel
theorem dX11_meetsOn_126 : decode cX11_meetsOn 126 = .ok (.iload 5, 2) := by decide +kernel
theorem dX11_meetsOn_128 : decode cX11_meetsOn 128 = .ok (.iaload, 1) := by decide +kernel
theorem dX11_meetsOn_129 : decode cX11_meetsOn 129 = .ok (.isub, 1) := by decide +kernel
theorem dX11_meetsOn_130 : decode cX11_meetsOn 130 = .ok (.bipush 100, 2) := by decide +kernel
theorem dX11_meetsOn_132 : decode cX11_meetsOn 132 = .ok (.iload 4, 2) := by decide +kernel
theorem dX11_meetsOn_134 : decode cX11_meetsOn 134 = .ok (.imul, 1) := by decide +kernel
theorem dX11_meetsOn_135 : decode cX11_meetsOn 135 = .ok (.iload 5, 2) := by decide +kernel
theorem dX11_meetsOn_137 : decode cX11_meetsOn 137 = .ok (.iadd, 1) := by decide +kernel
theorem dX11_meetsOn_138 : decode cX11_meetsOn 138 = .ok (.invokevirtual 374, 3) := by decide +kernel
theorem dX11_meetsOn_141 : decode cX11_meetsOn 141 = .ok (.iinc 5 1, 3) := by decide +kernel
theorem dX11_meetsOn_144 : decode cX11_meetsOn 144 = .ok (.goto (-47), 3) := by decide +kernel
theorem dX11_meetsOn_147 : decode cX11_meetsOn 147 = .ok (.return_, 1) := by decide +kernel
theorem dX11_findMeant_0 : decode cX11_findMeant 0 = .ok (.aload_n 0, 1) := by decide +kernel
theorem dX11_findMeant_1 : decode cX11_findMeant 1 = .ok (.invokevirtual 285, 3) := by decide +kernel
theorem dX11_findMeant_4 : decode cX11_findMeant 4 = .ok (.aload_n 0, 1) := by decide +kernel
theorem dX11_findMeant_5 : decode cX11_findMeant 5 = .ok (.iconst 0, 1) := by decide +kernel
theorem dX11_findMeant_6 : decode cX11_findMeant 6 = .ok (.putfield 368, 3) := by decide +kernel
theorem dX11_findMeant_9 : decode cX11_findMeant 9 = .ok (.aload_n 0, 1) := by decide +kernel
theorem dX11_findMeant_10 : decode cX11_findMeant 10 = .ok (.iconst (-1), 1) := by decide +kernel
theorem dX11_findMeant_11 : decode cX11_findMeant 11 = .ok (.putfield 371, 3) := by decide +kernel
theorem dX11_findMeant_14 : decode cX11_findMeant 14 = .ok (.iconst 0, 1) := by decide +kernel
theorem dX11_findMeant_15 : decode cX11_findMeant 15 = .ok (.istore_n 3, 1) := by decide +kernel
theorem dX11_findMeant_16 : decode cX11_findMeant 16 = .ok (.iload_n 3, 1) := by decide +kernel
theorem dX11_findMeant_17 : decode cX11_findMeant 17 = .ok (.bipush 61, 2) := by decide +kernel
theorem dX11_findMeant_19 : decode cX11_findMeant 19 = .ok (.if_icmp .ge 28, 3) := by decide +kernel
theorem dX11_findMeant_22 : decode cX11_findMeant 22 = .ok (.aload_n 0, 1) := by decide +kernel
theorem dX11_findMeant_23 : decode cX11_findMeant 23 = .ok (.getfield 81, 3) := by decide +kernel
theorem dX11_findMeant_26 : decode cX11_findMeant 26 = .ok (.iload_n 3, 1) := by decide +kernel
theorem dX11_findMeant_27 : decode cX11_findMeant 27 = .ok (.iconst 0, 1) := by decide +kernel
theorem dX11_findMeant_28 : decode cX11_findMeant 28 = .ok (.iastore, 1) := by decide +kernel
theorem dX11_findMeant_29 : decode cX11_findMeant 29 = .ok (.aload_n 0, 1) := by decide +kernel
theorem dX11_findMeant_30 : decode cX11_findMeant 30 = .ok (.getfield 84, 3) := by decide +kernel
theorem dX11_findMeant_33 : decode cX11_findMeant 33 = .ok (.iload_n 3, 1) := by decide +kernel
theorem dX11_findMeant_34 : decode cX11_findMeant 34 = .ok (.aload_n 0, 1) := by decide +kernel
theorem dX11_findMeant_35 : decode cX11_findMeant 35 = .ok (.iload_n 3, 1) := by decide +kernel
theorem dX11_findMeant_36 : decode cX11_findMeant 36 = .ok (.iconst 1, 1) := by decide +kernel
theorem dX11_findMeant_37 : decode cX11_findMeant 37 = .ok (.invokevirtual 314, 3) := by decide +kernel
theorem dX11_findMeant_40 : decode cX11_findMeant 40 = .ok (.iastore, 1) := by decide +kernel
theorem dX11_findMeant_41 : decode cX11_findMeant 41 = .ok (.iinc 3 1, 3) := by decide +kernel
theorem dX11_findMeant_44 : decode cX11_findMeant 44 = .ok (.goto (-28), 3) := by decide +kernel
theorem dX11_findMeant_47 : decode cX11_findMeant 47 = .ok (.aload_n 0, 1) := by decide +kernel
theorem dX11_findMeant_48 : decode cX11_findMeant 48 = .ok (.iconst 1, 1) := by decide +kernel
theorem dX11_findMeant_49 : decode cX11_findMeant 49 = .ok (.iload_n 2, 1) := by decide +kernel
theorem dX11_findMeant_50 : decode cX11_findMeant 50 = .ok (.iload_n 1, 1) := by decide +kernel
theorem dX11_findMeant_51 : decode cX11_findMeant 51 = .ok (.iconst 0, 1) := by decide +kernel
theorem dX11_findMeant_52 : decode cX11_findMeant 52 = .ok (.invokevirtual 374, 3) := by decide +kernel
theorem dX11_findMeant_55 : decode cX11_findMeant 55 = .ok (.return_, 1) := by decide +kernel
theorem dX11_isAsked_0 : decode cX11_isAsked 0 = .ok (.iload_n 0, 1) := by decide +kernel
theorem dX11_isAsked_1 : decode cX11_isAsked 1 = .ok (.ifCond .lt 24, 3) := by decide +kernel
theorem dX11_isAsked_4 : decode cX11_isAsked 4 = .ok (.iload_n 0, 1) := by decide +kernel
theorem dX11_isAsked_5 : decode cX11_isAsked 5 = .ok (.sipush 297, 3) := by decide +kernel
theorem dX11_isAsked_8 : decode cX11_isAsked 8 = .ok (.if_icmp .gt 17, 3) := by decide +kernel
theorem dX11_isAsked_11 : decode cX11_isAsked 11 = .ok (.iload_n 1, 1) := by decide +kernel
theorem dX11_isAsked_12 : decode cX11_isAsked 12 = .ok (.iconst 1, 1) := by decide +kernel
theorem dX11_isAsked_13 : decode cX11_isAsked 13 = .ok (.if_icmp .lt 12, 3) := by decide +kernel
theorem dX11_isAsked_16 : decode cX11_isAsked 16 = .ok (.iload_n 1, 1) := by decide +kernel
theorem dX11_isAsked_17 : decode cX11_isAsked 17 = .ok (.iconst 3, 1) := by decide +kernel
theorem dX11_isAsked_18 : decode cX11_isAsked 18 = .ok (.if_icmp .gt 7, 3) := by decide +kernel
theorem dX11_isAsked_21 : decode cX11_isAsked 21 = .ok (.iconst 1, 1) := by decide +kernel
theorem dX11_isAsked_22 : decode cX11_isAsked 22 = .ok (.goto 4, 3) := by decide +kernel
theorem dX11_isAsked_25 : decode cX11_isAsked 25 = .ok (.iconst 0, 1) := by decide +kernel
theorem dX11_isAsked_26 : decode cX11_isAsked 26 = .ok (.ireturn, 1) := by decide +kernel
theorem dX11_meant_0 : decode cX11_meant 0 = .ok (.aload_n 0, 1) := by decide +kernel
theorem dX11_meant_1 : decode cX11_meant 1 = .ok (.iconst 0, 1) := by decide +kernel
theorem dX11_meant_2 : decode cX11_meant 2 = .ok (.putfield 3, 3) := by decide +kernel
theorem dX11_meant_5 : decode cX11_meant 5 = .ok (.aload_n 0, 1) := by decide +kernel
theorem dX11_meant_6 : decode cX11_meant 6 = .ok (.iload_n 1, 1) := by decide +kernel
theorem dX11_meant_7 : decode cX11_meant 7 = .ok (.iload_n 2, 1) := by decide +kernel
theorem dX11_meant_8 : decode cX11_meant 8 = .ok (.invokestatic 377, 3) := by decide +kernel
theorem dX11_meant_11 : decode cX11_meant 11 = .ok (.ifCond .eq 16, 3) := by decide +kernel
theorem dX11_meant_14 : decode cX11_meant 14 = .ok (.iload_n 3, 1) := by decide +kernel
theorem dX11_meant_15 : decode cX11_meant 15 = .ok (.iconst 0, 1) := by decide +kernel
theorem dX11_meant_16 : decode cX11_meant 16 = .ok (.iconst 1, 1) := by decide +kernel
theorem dX11_meant_17 : decode cX11_meant 17 = .ok (.invokestatic 330, 3) := by decide +kernel
theorem dX11_meant_20 : decode cX11_meant 20 = .ok (.ifCond .eq 7, 3) := by decide +kernel
theorem dX11_meant_23 : decode cX11_meant 23 = .ok (.iconst 1, 1) := by decide +kernel
theorem dX11_meant_24 : decode cX11_meant 24 = .ok (.goto 4, 3) := by decide +kernel
theorem dX11_meant_27 : decode cX11_meant 27 = .ok (.iconst 0, 1) := by decide +kernel
theorem dX11_meant_28 : decode cX11_meant 28 = .ok (.iconst 1, 1) := by decide +kernel
theorem dX11_meant_29 : decode cX11_meant 29 = .ok (.iconst 1, 1) := by decide +kernel
theorem dX11_meant_30 : decode cX11_meant 30 = .ok (.invokevirtual 185, 3) := by decide +kernel
theorem dX11_meant_33 : decode cX11_meant 33 = .ok (.ifCond .ne 5, 3) := by decide +kernel
theorem dX11_meant_36 : decode cX11_meant 36 = .ok (.iconst 0, 1) := by decide +kernel
theorem dX11_meant_37 : decode cX11_meant 37 = .ok (.ireturn, 1) := by decide +kernel
theorem dX11_meant_38 : decode cX11_meant 38 = .ok (.aload_n 0, 1) := by decide +kernel
theorem dX11_meant_39 : decode cX11_meant 39 = .ok (.iload_n 1, 1) := by decide +kernel
theorem dX11_meant_40 : decode cX11_meant 40 = .ok (.iload_n 2, 1) := by decide +kernel
theorem dX11_meant_41 : decode cX11_meant 41 = .ok (.invokevirtual 380, 3) := by decide +kernel
theorem dX11_meant_44 : decode cX11_meant 44 = .ok (.iload_n 3, 1) := by decide +kernel
theorem dX11_meant_45 : decode cX11_meant 45 = .ok (.ifCond .ne 10, 3) := by decide +kernel
theorem dX11_meant_48 : decode cX11_meant 48 = .ok (.aload_n 0, 1) := by decide +kernel
theorem dX11_meant_49 : decode cX11_meant 49 = .ok (.getfield 368, 3) := by decide +kernel
theorem dX11_meant_52 : decode cX11_meant 52 = .ok (.goto 7, 3) := by decide +kernel
theorem dX11_meant_55 : decode cX11_meant 55 = .ok (.aload_n 0, 1) := by decide +kernel
theorem dX11_meant_56 : decode cX11_meant 56 = .ok (.getfield 371, 3) := by decide +kernel
theorem dX11_meant_59 : decode cX11_meant 59 = .ok (.ireturn, 1) := by decide +kernel
theorem dX11_look_0 : decode cX11_look 0 = .ok (.aload_n 0, 1) := by decide +kernel
theorem dX11_look_1 : decode cX11_look 1 = .ok (.iconst 0, 1) := by decide +kernel
theorem dX11_look_2 : decode cX11_look 2 = .ok (.putfield 3, 3) := by decide +kernel
theorem dX11_look_5 : decode cX11_look 5 = .ok (.aload_n 0, 1) := by decide +kernel
theorem dX11_look_6 : decode cX11_look 6 = .ok (.iload_n 1, 1) := by decide +kernel
theorem dX11_look_7 : decode cX11_look 7 = .ok (.iload_n 2, 1) := by decide +kernel
theorem dX11_look_8 : decode cX11_look 8 = .ok (.invokestatic 377, 3) := by decide +kernel
theorem dX11_look_11 : decode cX11_look 11 = .ok (.ifCond .eq 16, 3) := by decide +kernel
theorem dX11_look_14 : decode cX11_look 14 = .ok (.iload_n 3, 1) := by decide +kernel
theorem dX11_look_15 : decode cX11_look 15 = .ok (.iconst 0, 1) := by decide +kernel
theorem dX11_look_16 : decode cX11_look 16 = .ok (.iconst 1, 1) := by decide +kernel
theorem dX11_look_17 : decode cX11_look 17 = .ok (.invokestatic 330, 3) := by decide +kernel
theorem dX11_look_20 : decode cX11_look 20 = .ok (.ifCond .eq 7, 3) := by decide +kernel
theorem dX11_look_23 : decode cX11_look 23 = .ok (.iconst 1, 1) := by decide +kernel
theorem dX11_look_24 : decode cX11_look 24 = .ok (.goto 4, 3) := by decide +kernel
theorem dX11_look_27 : decode cX11_look 27 = .ok (.iconst 0, 1) := by decide +kernel
theorem dX11_look_28 : decode cX11_look 28 = .ok (.iconst 1, 1) := by decide +kernel
theorem dX11_look_29 : decode cX11_look 29 = .ok (.iconst 1, 1) := by decide +kernel
theorem dX11_look_30 : decode cX11_look 30 = .ok (.invokevirtual 185, 3) := by decide +kernel
theorem dX11_look_33 : decode cX11_look 33 = .ok (.ifCond .ne 5, 3) := by decide +kernel
theorem dX11_look_36 : decode cX11_look 36 = .ok (.iconst 0, 1) := by decide +kernel
theorem dX11_look_37 : decode cX11_look 37 = .ok (.ireturn, 1) := by decide +kernel
theorem dX11_look_38 : decode cX11_look 38 = .ok (.aload_n 0, 1) := by decide +kernel
theorem dX11_look_39 : decode cX11_look 39 = .ok (.iload_n 1, 1) := by decide +kernel
theorem dX11_look_40 : decode cX11_look 40 = .ok (.iload_n 2, 1) := by decide +kernel
theorem dX11_look_41 : decode cX11_look 41 = .ok (.invokevirtual 380, 3) := by decide +kernel
theorem dX11_look_44 : decode cX11_look 44 = .ok (.iconst (-1), 1) := by decide +kernel
theorem dX11_look_45 : decode cX11_look 45 = .ok (.istore 4, 2) := by decide +kernel
theorem dX11_look_47 : decode cX11_look 47 = .ok (.iconst (-1), 1) := by decide +kernel
theorem dX11_look_48 : decode cX11_look 48 = .ok (.istore 5, 2) := by decide +kernel
theorem dX11_look_50 : decode cX11_look 50 = .ok (.iconst 1, 1) := by decide +kernel
theorem dX11_look_51 : decode cX11_look 51 = .ok (.istore 6, 2) := by decide +kernel
theorem dX11_look_53 : decode cX11_look 53 = .ok (.iload 6, 2) := by decide +kernel
theorem dX11_look_55 : decode cX11_look 55 = .ok (.bipush 61, 2) := by decide +kernel
theorem dX11_look_57 : decode cX11_look 57 = .ok (.if_icmp .ge 79, 3) := by decide +kernel
theorem dX11_look_60 : decode cX11_look 60 = .ok (.aload_n 0, 1) := by decide +kernel
theorem dX11_look_61 : decode cX11_look 61 = .ok (.getfield 81, 3) := by decide +kernel
theorem dX11_look_64 : decode cX11_look 64 = .ok (.iload 6, 2) := by decide +kernel
theorem dX11_look_66 : decode cX11_look 66 = .ok (.iaload, 1) := by decide +kernel
theorem dX11_look_67 : decode cX11_look 67 = .ok (.aload_n 0, 1) := by decide +kernel
theorem dX11_look_68 : decode cX11_look 68 = .ok (.getfield 368, 3) := by decide +kernel
theorem dX11_look_71 : decode cX11_look 71 = .ok (.aload_n 0, 1) := by decide +kernel
theorem dX11_look_72 : decode cX11_look 72 = .ok (.getfield 81, 3) := by decide +kernel
theorem dX11_look_75 : decode cX11_look 75 = .ok (.iload 6, 2) := by decide +kernel
theorem dX11_look_77 : decode cX11_look 77 = .ok (.iaload, 1) := by decide +kernel
theorem dX11_look_78 : decode cX11_look 78 = .ok (.isub, 1) := by decide +kernel
theorem dX11_look_79 : decode cX11_look 79 = .ok (.if_icmp .le 13, 3) := by decide +kernel
theorem dX11_look_82 : decode cX11_look 82 = .ok (.aload_n 0, 1) := by decide +kernel
theorem dX11_look_83 : decode cX11_look 83 = .ok (.getfield 81, 3) := by decide +kernel
theorem dX11_look_86 : decode cX11_look 86 = .ok (.iload 6, 2) := by decide +kernel
theorem dX11_look_88 : decode cX11_look 88 = .ok (.iaload, 1) := by decide +kernel
theorem dX11_look_89 : decode cX11_look 89 = .ok (.goto 15, 3) := by decide +kernel
theorem dX11_look_92 : decode cX11_look 92 = .ok (.aload_n 0, 1) := by decide +kernel
theorem dX11_look_93 : decode cX11_look 93 = .ok (.getfield 368, 3) := by decide +kernel
theorem dX11_look_96 : decode cX11_look 96 = .ok (.aload_n 0, 1) := by decide +kernel
theorem dX11_look_97 : decode cX11_look 97 = .ok (.getfield 81, 3) := by decide +kernel
theorem dX11_look_100 : decode cX11_look 100 = .ok (.iload 6, 2) := by decide +kernel
theorem dX11_look_102 : decode cX11_look 102 = .ok (.iaload, 1) := by decide +kernel
theorem dX11_look_103 : decode cX11_look 103 = .ok (.isub, 1) := by decide +kernel
theorem dX11_look_104 : decode cX11_look 104 = .ok (.istore 7, 2) := by decide +kernel
theorem dX11_look_106 : decode cX11_look 106 = .ok (.iload 4, 2) := by decide +kernel
theorem dX11_look_108 : decode cX11_look 108 = .ok (.iconst (-1), 1) := by decide +kernel
theorem dX11_look_109 : decode cX11_look 109 = .ok (.if_icmp .eq 13, 3) := by decide +kernel
theorem dX11_look_112 : decode cX11_look 112 = .ok (.iload 7, 2) := by decide +kernel
theorem dX11_look_114 : decode cX11_look 114 = .ok (.iload 5, 2) := by decide +kernel
theorem dX11_look_116 : decode cX11_look 116 = .ok (.if_icmp .lt 6, 3) := by decide +kernel
theorem dX11_look_119 : decode cX11_look 119 = .ok (.goto 11, 3) := by decide +kernel
theorem dX11_look_122 : decode cX11_look 122 = .ok (.iload 6, 2) := by decide +kernel
theorem dX11_look_124 : decode cX11_look 124 = .ok (.istore 4, 2) := by decide +kernel
theorem dX11_look_126 : decode cX11_look 126 = .ok (.iload 7, 2) := by decide +kernel
theorem dX11_look_128 : decode cX11_look 128 = .ok (.istore 5, 2) := by decide +kernel
theorem dX11_look_130 : decode cX11_look 130 = .ok (.iinc 6 1, 3) := by decide +kernel
theorem dX11_look_133 : decode cX11_look 133 = .ok (.goto (-80), 3) := by decide +kernel
theorem dX11_look_136 : decode cX11_look 136 = .ok (.iload_n 3, 1) := by decide +kernel
theorem dX11_look_137 : decode cX11_look 137 = .ok (.ifCond .ne 8, 3) := by decide +kernel
theorem dX11_look_140 : decode cX11_look 140 = .ok (.iload 4, 2) := by decide +kernel
theorem dX11_look_142 : decode cX11_look 142 = .ok (.goto 5, 3) := by decide +kernel
theorem dX11_look_145 : decode cX11_look 145 = .ok (.iload 5, 2) := by decide +kernel
theorem dX11_look_147 : decode cX11_look 147 = .ok (.ireturn, 1) := by decide +kernel
theorem dX11_dice_0 : decode cX11_dice 0 = .ok (.aload_n 0, 1) := by decide +kernel
theorem dX11_dice_1 : decode cX11_dice 1 = .ok (.iconst 0, 1) := by decide +kernel
theorem dX11_dice_2 : decode cX11_dice 2 = .ok (.putfield 3, 3) := by decide +kernel
theorem dX11_dice_5 : decode cX11_dice 5 = .ok (.aload_n 0, 1) := by decide +kernel
theorem dX11_dice_6 : decode cX11_dice 6 = .ok (.iload_n 1, 1) := by decide +kernel
theorem dX11_dice_7 : decode cX11_dice 7 = .ok (.iconst 1, 1) := by decide +kernel
theorem dX11_dice_8 : decode cX11_dice 8 = .ok (.bipush 60, 2) := by decide +kernel
theorem dX11_dice_10 : decode cX11_dice 10 = .ok (.invokestatic 330, 3) := by decide +kernel
theorem dX11_dice_13 : decode cX11_dice 13 = .ok (.ifCond .eq 16, 3) := by decide +kernel
theorem dX11_dice_16 : decode cX11_dice 16 = .ok (.iload_n 2, 1) := by decide +kernel
theorem dX11_dice_17 : decode cX11_dice 17 = .ok (.iconst 0, 1) := by decide +kernel
theorem dX11_dice_18 : decode cX11_dice 18 = .ok (.iconst 1, 1) := by decide +kernel
theorem dX11_dice_19 : decode cX11_dice 19 = .ok (.invokestatic 330, 3) := by decide +kernel
theorem dX11_dice_22 : decode cX11_dice 22 = .ok (.ifCond .eq 7, 3) := by decide +kernel
theorem dX11_dice_25 : decode cX11_dice 25 = .ok (.iconst 1, 1) := by decide +kernel
theorem dX11_dice_26 : decode cX11_dice 26 = .ok (.goto 4, 3) := by decide +kernel
theorem dX11_dice_29 : decode cX11_dice 29 = .ok (.iconst 0, 1) := by decide +kernel
theorem dX11_dice_30 : decode cX11_dice 30 = .ok (.iconst 1, 1) := by decide +kernel
theorem dX11_dice_31 : decode cX11_dice 31 = .ok (.iconst 1, 1) := by decide +kernel
theorem dX11_dice_32 : decode cX11_dice 32 = .ok (.invokevirtual 185, 3) := by decide +kernel
theorem dX11_dice_35 : decode cX11_dice 35 = .ok (.ifCond .ne 5, 3) := by decide +kernel
theorem dX11_dice_38 : decode cX11_dice 38 = .ok (.iconst 0, 1) := by decide +kernel
theorem dX11_dice_39 : decode cX11_dice 39 = .ok (.ireturn, 1) := by decide +kernel
theorem dX11_dice_40 : decode cX11_dice 40 = .ok (.aload_n 0, 1) := by decide +kernel
theorem dX11_dice_41 : decode cX11_dice 41 = .ok (.invokevirtual 285, 3) := by decide +kernel
theorem dX11_dice_44 : decode cX11_dice 44 = .ok (.iconst 0, 1) := by decide +kernel
theorem dX11_dice_45 : decode cX11_dice 45 = .ok (.istore_n 3, 1) := by decide +kernel
theorem dX11_dice_46 : decode cX11_dice 46 = .ok (.iconst 1, 1) := by decide +kernel
theorem dX11_dice_47 : decode cX11_dice 47 = .ok (.istore 4, 2) := by decide +kernel
theorem dX11_dice_49 : decode cX11_dice 49 = .ok (.iload 4, 2) := by decide +kernel
theorem dX11_dice_51 : decode cX11_dice 51 = .ok (.iload_n 1, 1) := by decide +kernel
theorem dX11_dice_52 : decode cX11_dice 52 = .ok (.if_icmp .gt 19, 3) := by decide +kernel
theorem dX11_dice_55 : decode cX11_dice 55 = .ok (.iload_n 3, 1) := by decide +kernel
theorem dX11_dice_56 : decode cX11_dice 56 = .ok (.aload_n 0, 1) := by decide +kernel
theorem dX11_dice_57 : decode cX11_dice 57 = .ok (.iload 4, 2) := by decide +kernel
theorem dX11_dice_59 : decode cX11_dice 59 = .ok (.iconst 1, 1) := by decide +kernel
theorem dX11_dice_60 : decode cX11_dice 60 = .ok (.invokevirtual 314, 3) := by decide +kernel
theorem dX11_dice_63 : decode cX11_dice 63 = .ok (.iadd, 1) := by decide +kernel
theorem dX11_dice_64 : decode cX11_dice 64 = .ok (.istore_n 3, 1) := by decide +kernel
theorem dX11_dice_65 : decode cX11_dice 65 = .ok (.iinc 4 1, 3) := by decide +kernel
theorem dX11_dice_68 : decode cX11_dice 68 = .ok (.goto (-19), 3) := by decide +kernel
theorem dX11_dice_71 : decode cX11_dice 71 = .ok (.iload_n 3, 1) := by decide +kernel
theorem dX11_dice_72 : decode cX11_dice 72 = .ok (.istore 4, 2) := by decide +kernel
theorem dX11_dice_74 : decode cX11_dice 74 = .ok (.iload_n 1, 1) := by decide +kernel
theorem dX11_dice_75 : decode cX11_dice 75 = .ok (.istore 5, 2) := by decide +kernel
theorem dX11_dice_77 : decode cX11_dice 77 = .ok (.iload 5, 2) := by decide +kernel
theorem dX11_dice_79 : decode cX11_dice 79 = .ok (.ifCond .eq 21, 3) := by decide +kernel
theorem dX11_dice_82 : decode cX11_dice 82 = .ok (.iload 4, 2) := by decide +kernel
theorem dX11_dice_84 : decode cX11_dice 84 = .ok (.iload 5, 2) := by decide +kernel
theorem dX11_dice_86 : decode cX11_dice 86 = .ok (.irem, 1) := by decide +kernel
theorem dX11_dice_87 : decode cX11_dice 87 = .ok (.istore 6, 2) := by decide +kernel
theorem dX11_dice_89 : decode cX11_dice 89 = .ok (.iload 5, 2) := by decide +kernel
theorem dX11_dice_91 : decode cX11_dice 91 = .ok (.istore 4, 2) := by decide +kernel
theorem dX11_dice_93 : decode cX11_dice 93 = .ok (.iload 6, 2) := by decide +kernel
theorem dX11_dice_95 : decode cX11_dice 95 = .ok (.istore 5, 2) := by decide +kernel
theorem dX11_dice_97 : decode cX11_dice 97 = .ok (.goto (-20), 3) := by decide +kernel
theorem dX11_dice_100 : decode cX11_dice 100 = .ok (.iload_n 2, 1) := by decide +kernel
theorem dX11_dice_101 : decode cX11_dice 101 = .ok (.ifCond .ne 7, 3) := by decide +kernel
theorem dX11_dice_104 : decode cX11_dice 104 = .ok (.iload_n 3, 1) := by decide +kernel
theorem dX11_dice_105 : decode cX11_dice 105 = .ok (.goto 4, 3) := by decide +kernel
theorem dX11_dice_108 : decode cX11_dice 108 = .ok (.iload_n 1, 1) := by decide +kernel
theorem dX11_dice_109 : decode cX11_dice 109 = .ok (.iload 4, 2) := by decide +kernel
theorem dX11_dice_111 : decode cX11_dice 111 = .ok (.idiv, 1) := by decide +kernel
theorem dX11_dice_112 : decode cX11_dice 112 = .ok (.ireturn, 1) := by decide +kernel
theorem dX11_hasBy_0 : decode cX11_hasBy 0 = .ok (.iload_n 0, 1) := by decide +kernel
theorem dX11_hasBy_1 : decode cX11_hasBy 1 = .ok (.iload_n 1, 1) := by decide +kernel
theorem dX11_hasBy_2 : decode cX11_hasBy 2 = .ok (.if_icmp .ge 7, 3) := by decide +kernel
theorem dX11_hasBy_5 : decode cX11_hasBy 5 = .ok (.iload_n 0, 1) := by decide +kernel
theorem dX11_hasBy_6 : decode cX11_hasBy 6 = .ok (.goto 15, 3) := by decide +kernel
theorem dX11_hasBy_9 : decode cX11_hasBy 9 = .ok (.iload_n 0, 1) := by decide +kernel
theorem dX11_hasBy_10 : decode cX11_hasBy 10 = .ok (.iload_n 1, 1) := by decide +kernel
theorem dX11_hasBy_11 : decode cX11_hasBy 11 = .ok (.if_icmp .ne 9, 3) := by decide +kernel
theorem dX11_hasBy_14 : decode cX11_hasBy 14 = .ok (.iload_n 0, 1) := by decide +kernel
theorem dX11_hasBy_15 : decode cX11_hasBy 15 = .ok (.iconst 2, 1) := by decide +kernel
theorem dX11_hasBy_16 : decode cX11_hasBy 16 = .ok (.idiv, 1) := by decide +kernel
theorem dX11_hasBy_17 : decode cX11_hasBy 17 = .ok (.goto 4, 3) := by decide +kernel
theorem dX11_hasBy_20 : decode cX11_hasBy 20 = .ok (.iconst 0, 1) := by decide +kernel
theorem dX11_hasBy_21 : decode cX11_hasBy 21 = .ok (.ireturn, 1) := by decide +kernel
theorem dX11_isRest_0 : decode cX11_isRest 0 = .ok (.iconst 0, 1) := by decide +kernel
theorem dX11_isRest_1 : decode cX11_isRest 1 = .ok (.istore_n 3, 1) := by decide +kernel
theorem dX11_isRest_2 : decode cX11_isRest 2 = .ok (.iload_n 3, 1) := by decide +kernel
theorem dX11_isRest_3 : decode cX11_isRest 3 = .ok (.iload_n 2, 1) := by decide +kernel
theorem dX11_isRest_4 : decode cX11_isRest 4 = .ok (.if_icmp .gt 37, 3) := by decide +kernel
theorem dX11_isRest_7 : decode cX11_isRest 7 = .ok (.iload_n 3, 1) := by decide +kernel
theorem dX11_isRest_8 : decode cX11_isRest 8 = .ok (.iload_n 1, 1) := by decide +kernel
theorem dX11_isRest_9 : decode cX11_isRest 9 = .ok (.invokestatic 383, 3) := by decide +kernel
theorem dX11_isRest_12 : decode cX11_isRest 12 = .ok (.iload_n 0, 1) := by decide +kernel
theorem dX11_isRest_13 : decode cX11_isRest 13 = .ok (.iload_n 1, 1) := by decide +kernel
theorem dX11_isRest_14 : decode cX11_isRest 14 = .ok (.invokestatic 383, 3) := by decide +kernel
theorem dX11_isRest_17 : decode cX11_isRest 17 = .ok (.if_icmp .gt 16, 3) := by decide +kernel
theorem dX11_isRest_20 : decode cX11_isRest 20 = .ok (.iload_n 3, 1) := by decide +kernel
theorem dX11_isRest_21 : decode cX11_isRest 21 = .ok (.iload_n 0, 1) := by decide +kernel
theorem dX11_isRest_22 : decode cX11_isRest 22 = .ok (.invokestatic 383, 3) := by decide +kernel
theorem dX11_isRest_25 : decode cX11_isRest 25 = .ok (.iload_n 1, 1) := by decide +kernel
theorem dX11_isRest_26 : decode cX11_isRest 26 = .ok (.iload_n 0, 1) := by decide +kernel
theorem dX11_isRest_27 : decode cX11_isRest 27 = .ok (.invokestatic 383, 3) := by decide +kernel
theorem dX11_isRest_30 : decode cX11_isRest 30 = .ok (.if_icmp .le 5, 3) := by decide +kernel
theorem dX11_isRest_33 : decode cX11_isRest 33 = .ok (.iconst 0, 1) := by decide +kernel
theorem dX11_isRest_34 : decode cX11_isRest 34 = .ok (.ireturn, 1) := by decide +kernel
theorem dX11_isRest_35 : decode cX11_isRest 35 = .ok (.iinc 3 1, 3) := by decide +kernel
theorem dX11_isRest_38 : decode cX11_isRest 38 = .ok (.goto (-36), 3) := by decide +kernel
theorem dX11_isRest_41 : decode cX11_isRest 41 = .ok (.iconst 1, 1) := by decide +kernel
theorem dX11_isRest_42 : decode cX11_isRest 42 = .ok (.ireturn, 1) := by decide +kernel
theorem dX11_lets_0 : decode cX11_lets 0 = .ok (.aload_n 0, 1) := by decide +kernel
theorem dX11_lets_1 : decode cX11_lets 1 = .ok (.iconst 0, 1) := by decide +kernel
theorem dX11_lets_2 : decode cX11_lets 2 = .ok (.putfield 3, 3) := by decide +kernel
theorem dX11_lets_5 : decode cX11_lets 5 = .ok (.aload_n 0, 1) := by decide +kernel
theorem dX11_lets_6 : decode cX11_lets 6 = .ok (.iload_n 1, 1) := by decide +kernel
theorem dX11_lets_7 : decode cX11_lets 7 = .ok (.iconst 0, 1) := by decide +kernel
theorem dX11_lets_8 : decode cX11_lets 8 = .ok (.bipush 20, 2) := by decide +kernel
theorem dX11_lets_10 : decode cX11_lets 10 = .ok (.invokestatic 330, 3) := by decide +kernel
theorem dX11_lets_13 : decode cX11_lets 13 = .ok (.ifCond .eq 16, 3) := by decide +kernel
theorem dX11_lets_16 : decode cX11_lets 16 = .ok (.iload_n 2, 1) := by decide +kernel
theorem dX11_lets_17 : decode cX11_lets 17 = .ok (.iconst 0, 1) := by decide +kernel
theorem dX11_lets_18 : decode cX11_lets 18 = .ok (.iconst 2, 1) := by decide +kernel
theorem dX11_lets_19 : decode cX11_lets 19 = .ok (.invokestatic 330, 3) := by decide +kernel
theorem dX11_lets_22 : decode cX11_lets 22 = .ok (.ifCond .eq 7, 3) := by decide +kernel
theorem dX11_lets_25 : decode cX11_lets 25 = .ok (.iconst 1, 1) := by decide +kernel
theorem dX11_lets_26 : decode cX11_lets 26 = .ok (.goto 4, 3) := by decide +kernel
theorem dX11_lets_29 : decode cX11_lets 29 = .ok (.iconst 0, 1) := by decide +kernel
theorem dX11_lets_30 : decode cX11_lets 30 = .ok (.iconst 1, 1) := by decide +kernel
theorem dX11_lets_31 : decode cX11_lets 31 = .ok (.iconst 1, 1) := by decide +kernel
theorem dX11_lets_32 : decode cX11_lets 32 = .ok (.invokevirtual 185, 3) := by decide +kernel
theorem dX11_lets_35 : decode cX11_lets 35 = .ok (.ifCond .ne 5, 3) := by decide +kernel
theorem dX11_lets_38 : decode cX11_lets 38 = .ok (.iconst 0, 1) := by decide +kernel
theorem dX11_lets_39 : decode cX11_lets 39 = .ok (.ireturn, 1) := by decide +kernel
theorem dX11_lets_40 : decode cX11_lets 40 = .ok (.iconst 0, 1) := by decide +kernel
theorem dX11_lets_41 : decode cX11_lets 41 = .ok (.istore_n 3, 1) := by decide +kernel
theorem dX11_lets_42 : decode cX11_lets 42 = .ok (.iconst (-1), 1) := by decide +kernel
theorem dX11_lets_43 : decode cX11_lets 43 = .ok (.istore 4, 2) := by decide +kernel
theorem dX11_lets_45 : decode cX11_lets 45 = .ok (.iconst 0, 1) := by decide +kernel
theorem dX11_lets_46 : decode cX11_lets 46 = .ok (.istore 5, 2) := by decide +kernel
theorem dX11_lets_48 : decode cX11_lets 48 = .ok (.iload 5, 2) := by decide +kernel
theorem dX11_lets_50 : decode cX11_lets 50 = .ok (.iload_n 1, 1) := by decide +kernel
theorem dX11_lets_51 : decode cX11_lets 51 = .ok (.iconst 1, 1) := by decide +kernel
theorem dX11_lets_52 : decode cX11_lets 52 = .ok (.iadd, 1) := by decide +kernel
theorem dX11_lets_53 : decode cX11_lets 53 = .ok (.iload_n 1, 1) := by decide +kernel
theorem dX11_lets_54 : decode cX11_lets 54 = .ok (.iconst 1, 1) := by decide +kernel
theorem dX11_lets_55 : decode cX11_lets 55 = .ok (.iadd, 1) := by decide +kernel
theorem dX11_lets_56 : decode cX11_lets 56 = .ok (.imul, 1) := by decide +kernel
theorem dX11_lets_57 : decode cX11_lets 57 = .ok (.if_icmp .ge 63, 3) := by decide +kernel
theorem dX11_lets_60 : decode cX11_lets 60 = .ok (.iload 5, 2) := by decide +kernel
theorem dX11_lets_62 : decode cX11_lets 62 = .ok (.iload_n 1, 1) := by decide +kernel
theorem dX11_lets_63 : decode cX11_lets 63 = .ok (.iconst 1, 1) := by decide +kernel
theorem dX11_lets_64 : decode cX11_lets 64 = .ok (.iadd, 1) := by decide +kernel
theorem dX11_lets_65 : decode cX11_lets 65 = .ok (.idiv, 1) := by decide +kernel
theorem dX11_lets_66 : decode cX11_lets 66 = .ok (.istore 6, 2) := by decide +kernel
theorem dX11_lets_68 : decode cX11_lets 68 = .ok (.iload 5, 2) := by decide +kernel
theorem dX11_lets_70 : decode cX11_lets 70 = .ok (.iload_n 1, 1) := by decide +kernel
theorem dX11_lets_71 : decode cX11_lets 71 = .ok (.iconst 1, 1) := by decide +kernel
theorem dX11_lets_72 : decode cX11_lets 72 = .ok (.iadd, 1) := by decide +kernel
theorem dX11_lets_73 : decode cX11_lets 73 = .ok (.irem, 1) := by decide +kernel
theorem dX11_lets_74 : decode cX11_lets 74 = .ok (.istore 7, 2) := by decide +kernel
theorem dX11_lets_76 : decode cX11_lets 76 = .ok (.iload 6, 2) := by decide +kernel
theorem dX11_lets_78 : decode cX11_lets 78 = .ok (.iload 7, 2) := by decide +kernel
theorem dX11_lets_80 : decode cX11_lets 80 = .ok (.iload_n 1, 1) := by decide +kernel
theorem dX11_lets_81 : decode cX11_lets 81 = .ok (.invokestatic 386, 3) := by decide +kernel
theorem dX11_lets_84 : decode cX11_lets 84 = .ok (.ifCond .ne 6, 3) := by decide +kernel
theorem dX11_lets_87 : decode cX11_lets 87 = .ok (.goto 27, 3) := by decide +kernel
theorem dX11_lets_90 : decode cX11_lets 90 = .ok (.iinc 3 1, 3) := by decide +kernel
theorem dX11_lets_93 : decode cX11_lets 93 = .ok (.iload 4, 2) := by decide +kernel
theorem dX11_lets_95 : decode cX11_lets 95 = .ok (.iconst (-1), 1) := by decide +kernel
theorem dX11_lets_96 : decode cX11_lets 96 = .ok (.if_icmp .ne 14, 3) := by decide +kernel
theorem dX11_lets_99 : decode cX11_lets 99 = .ok (.bipush 100, 2) := by decide +kernel
theorem dX11_lets_101 : decode cX11_lets 101 = .ok (.iload 6, 2) := by decide +kernel
theorem dX11_lets_103 : decode cX11_lets 103 = .ok (.imul, 1) := by decide +kernel
theorem dX11_lets_104 : decode cX11_lets 104 = .ok (.iload 7, 2) := by decide +kernel
theorem dX11_lets_106 : decode cX11_lets 106 = .ok (.iadd, 1) := by decide +kernel
theorem dX11_lets_107 : decode cX11_lets 107 = .ok (.goto 5, 3) := by decide +kernel
theorem dX11_lets_110 : decode cX11_lets 110 = .ok (.iload 4, 2) := by decide +kernel
theorem dX11_lets_112 : decode cX11_lets 112 = .ok (.istore 4, 2) := by decide +kernel
theorem dX11_lets_114 : decode cX11_lets 114 = .ok (.iinc 5 1, 3) := by decide +kernel
theorem dX11_lets_117 : decode cX11_lets 117 = .ok (.goto (-69), 3) := by decide +kernel
theorem dX11_lets_120 : decode cX11_lets 120 = .ok (.iload_n 2, 1) := by decide +kernel
theorem dX11_lets_121 : decode cX11_lets 121 = .ok (.ifCond .ne 7, 3) := by decide +kernel
theorem dX11_lets_124 : decode cX11_lets 124 = .ok (.iload_n 3, 1) := by decide +kernel
theorem dX11_lets_125 : decode cX11_lets 125 = .ok (.goto 50, 3) := by decide +kernel
theorem dX11_lets_128 : decode cX11_lets 128 = .ok (.iload_n 2, 1) := by decide +kernel
theorem dX11_lets_129 : decode cX11_lets 129 = .ok (.iconst 1, 1) := by decide +kernel
theorem dX11_lets_130 : decode cX11_lets 130 = .ok (.if_icmp .ne 8, 3) := by decide +kernel
theorem dX11_lets_133 : decode cX11_lets 133 = .ok (.iload 4, 2) := by decide +kernel
theorem dX11_lets_135 : decode cX11_lets 135 = .ok (.goto 40, 3) := by decide +kernel
theorem dX11_lets_138 : decode cX11_lets 138 = .ok (.iload 4, 2) := by decide +kernel
theorem dX11_lets_140 : decode cX11_lets 140 = .ok (.iconst (-1), 1) := by decide +kernel
theorem dX11_lets_141 : decode cX11_lets 141 = .ok (.if_icmp .ne 7, 3) := by decide +kernel
theorem dX11_lets_144 : decode cX11_lets 144 = .ok (.iconst 0, 1) := by decide +kernel
theorem dX11_lets_145 : decode cX11_lets 145 = .ok (.goto 30, 3) := by decide +kernel
theorem dX11_lets_148 : decode cX11_lets 148 = .ok (.iload 4, 2) := by decide +kernel
theorem dX11_lets_150 : decode cX11_lets 150 = .ok (.bipush 100, 2) := by decide +kernel
theorem dX11_lets_152 : decode cX11_lets 152 = .ok (.idiv, 1) := by decide +kernel
theorem dX11_lets_153 : decode cX11_lets 153 = .ok (.iload 4, 2) := by decide +kernel
theorem dX11_lets_155 : decode cX11_lets 155 = .ok (.bipush 100, 2) := by decide +kernel
theorem dX11_lets_157 : decode cX11_lets 157 = .ok (.irem, 1) := by decide +kernel
theorem dX11_lets_158 : decode cX11_lets 158 = .ok (.invokestatic 383, 3) := by decide +kernel
theorem dX11_lets_161 : decode cX11_lets 161 = .ok (.iload 4, 2) := by decide +kernel
theorem dX11_lets_163 : decode cX11_lets 163 = .ok (.bipush 100, 2) := by decide +kernel
theorem dX11_lets_165 : decode cX11_lets 165 = .ok (.irem, 1) := by decide +kernel
theorem dX11_lets_166 : decode cX11_lets 166 = .ok (.iload 4, 2) := by decide +kernel
theorem dX11_lets_168 : decode cX11_lets 168 = .ok (.bipush 100, 2) := by decide +kernel
theorem dX11_lets_170 : decode cX11_lets 170 = .ok (.idiv, 1) := by decide +kernel
theorem dX11_lets_171 : decode cX11_lets 171 = .ok (.invokestatic 383, 3) := by decide +kernel
theorem dX11_lets_174 : decode cX11_lets 174 = .ok (.iadd, 1) := by decide +kernel
theorem dX11_lets_175 : decode cX11_lets 175 = .ok (.ireturn, 1) := by decide +kernel
theorem dX11_givenBy_0 : decode cX11_givenBy 0 = .ok (.iconst 0, 1) := by decide +kernel
theorem dX11_givenBy_1 : decode cX11_givenBy 1 = .ok (.istore_n 2, 1) := by decide +kernel
theorem dX11_givenBy_2 : decode cX11_givenBy 2 = .ok (.iconst 0, 1) := by decide +kernel
theorem dX11_givenBy_3 : decode cX11_givenBy 3 = .ok (.istore_n 3, 1) := by decide +kernel
theorem dX11_givenBy_4 : decode cX11_givenBy 4 = .ok (.iload_n 3, 1) := by decide +kernel
theorem dX11_givenBy_5 : decode cX11_givenBy 5 = .ok (.aload_n 0, 1) := by decide +kernel
theorem dX11_givenBy_6 : decode cX11_givenBy 6 = .ok (.getfield 152, 3) := by decide +kernel
theorem dX11_givenBy_9 : decode cX11_givenBy 9 = .ok (.if_icmp .ge 40, 3) := by decide +kernel
theorem dX11_givenBy_12 : decode cX11_givenBy 12 = .ok (.iload_n 2, 1) := by decide +kernel
theorem dX11_givenBy_13 : decode cX11_givenBy 13 = .ok (.aload_n 0, 1) := by decide +kernel
theorem dX11_givenBy_14 : decode cX11_givenBy 14 = .ok (.getfield 56, 3) := by decide +kernel
theorem dX11_givenBy_17 : decode cX11_givenBy 17 = .ok (.sipush 183, 3) := by decide +kernel
theorem dX11_givenBy_20 : decode cX11_givenBy 20 = .ok (.iload_n 3, 1) := by decide +kernel
theorem dX11_givenBy_21 : decode cX11_givenBy 21 = .ok (.iadd, 1) := by decide +kernel
theorem dX11_givenBy_22 : decode cX11_givenBy 22 = .ok (.iaload, 1) := by decide +kernel
theorem dX11_givenBy_23 : decode cX11_givenBy 23 = .ok (.iload_n 1, 1) := by decide +kernel
theorem dX11_givenBy_24 : decode cX11_givenBy 24 = .ok (.if_icmp .ge 16, 3) := by decide +kernel
theorem dX11_givenBy_27 : decode cX11_givenBy 27 = .ok (.aload_n 0, 1) := by decide +kernel
theorem dX11_givenBy_28 : decode cX11_givenBy 28 = .ok (.getfield 56, 3) := by decide +kernel
theorem dX11_givenBy_31 : decode cX11_givenBy 31 = .ok (.sipush 183, 3) := by decide +kernel
theorem dX11_givenBy_34 : decode cX11_givenBy 34 = .ok (.iload_n 3, 1) := by decide +kernel
theorem dX11_givenBy_35 : decode cX11_givenBy 35 = .ok (.iadd, 1) := by decide +kernel
theorem dX11_givenBy_36 : decode cX11_givenBy 36 = .ok (.iaload, 1) := by decide +kernel
theorem dX11_givenBy_37 : decode cX11_givenBy 37 = .ok (.goto 4, 3) := by decide +kernel
theorem dX11_givenBy_40 : decode cX11_givenBy 40 = .ok (.iload_n 1, 1) := by decide +kernel
theorem dX11_givenBy_41 : decode cX11_givenBy 41 = .ok (.iadd, 1) := by decide +kernel
theorem dX11_givenBy_42 : decode cX11_givenBy 42 = .ok (.istore_n 2, 1) := by decide +kernel
theorem dX11_givenBy_43 : decode cX11_givenBy 43 = .ok (.iinc 3 1, 3) := by decide +kernel
theorem dX11_givenBy_46 : decode cX11_givenBy 46 = .ok (.goto (-42), 3) := by decide +kernel
theorem dX11_givenBy_49 : decode cX11_givenBy 49 = .ok (.iload_n 2, 1) := by decide +kernel
theorem dX11_givenBy_50 : decode cX11_givenBy 50 = .ok (.ireturn, 1) := by decide +kernel
theorem dX11_tax_0 : decode cX11_tax 0 = .ok (.aload_n 0, 1) := by decide +kernel
theorem dX11_tax_1 : decode cX11_tax 1 = .ok (.iconst 0, 1) := by decide +kernel
theorem dX11_tax_2 : decode cX11_tax 2 = .ok (.putfield 3, 3) := by decide +kernel
theorem dX11_tax_5 : decode cX11_tax 5 = .ok (.aload_n 0, 1) := by decide +kernel
theorem dX11_tax_6 : decode cX11_tax 6 = .ok (.iload_n 1, 1) := by decide +kernel
theorem dX11_tax_7 : decode cX11_tax 7 = .ok (.iconst 1, 1) := by decide +kernel
theorem dX11_tax_8 : decode cX11_tax 8 = .ok (.invokevirtual 336, 3) := by decide +kernel
theorem dX11_tax_11 : decode cX11_tax 11 = .ok (.ifCond .eq 20, 3) := by decide +kernel
theorem dX11_tax_14 : decode cX11_tax 14 = .ok (.aload_n 0, 1) := by decide +kernel
theorem dX11_tax_15 : decode cX11_tax 15 = .ok (.iload_n 2, 1) := by decide +kernel
theorem dX11_tax_16 : decode cX11_tax 16 = .ok (.iconst 0, 1) := by decide +kernel
theorem dX11_tax_17 : decode cX11_tax 17 = .ok (.sipush 9999, 3) := by decide +kernel
theorem dX11_tax_20 : decode cX11_tax 20 = .ok (.invokestatic 330, 3) := by decide +kernel
theorem dX11_tax_23 : decode cX11_tax 23 = .ok (.iconst 2, 1) := by decide +kernel
theorem dX11_tax_24 : decode cX11_tax 24 = .ok (.iconst 1, 1) := by decide +kernel
theorem dX11_tax_25 : decode cX11_tax 25 = .ok (.invokevirtual 185, 3) := by decide +kernel
theorem dX11_tax_28 : decode cX11_tax 28 = .ok (.ifCond .ne 5, 3) := by decide +kernel
theorem dX11_tax_31 : decode cX11_tax 31 = .ok (.iconst 0, 1) := by decide +kernel
theorem dX11_tax_32 : decode cX11_tax 32 = .ok (.ireturn, 1) := by decide +kernel
theorem dX11_tax_33 : decode cX11_tax 33 = .ok (.iconst 0, 1) := by decide +kernel
theorem dX11_tax_34 : decode cX11_tax 34 = .ok (.istore_n 3, 1) := by decide +kernel
theorem dX11_tax_35 : decode cX11_tax 35 = .ok (.sipush 9999, 3) := by decide +kernel
theorem dX11_tax_38 : decode cX11_tax 38 = .ok (.istore 4, 2) := by decide +kernel
theorem dX11_tax_40 : decode cX11_tax 40 = .ok (.iload_n 3, 1) := by decide +kernel
theorem dX11_tax_41 : decode cX11_tax 41 = .ok (.iload 4, 2) := by decide +kernel
theorem dX11_tax_43 : decode cX11_tax 43 = .ok (.if_icmp .ge 38, 3) := by decide +kernel
theorem dX11_tax_46 : decode cX11_tax 46 = .ok (.iload_n 3, 1) := by decide +kernel
theorem dX11_tax_47 : decode cX11_tax 47 = .ok (.iload 4, 2) := by decide +kernel
theorem dX11_tax_49 : decode cX11_tax 49 = .ok (.iadd, 1) := by decide +kernel
theorem dX11_tax_50 : decode cX11_tax 50 = .ok (.iconst 1, 1) := by decide +kernel
theorem dX11_tax_51 : decode cX11_tax 51 = .ok (.iadd, 1) := by decide +kernel
theorem dX11_tax_52 : decode cX11_tax 52 = .ok (.iconst 2, 1) := by decide +kernel
theorem dX11_tax_53 : decode cX11_tax 53 = .ok (.idiv, 1) := by decide +kernel
theorem dX11_tax_54 : decode cX11_tax 54 = .ok (.istore 5, 2) := by decide +kernel
theorem dX11_tax_56 : decode cX11_tax 56 = .ok (.aload_n 0, 1) := by decide +kernel
theorem dX11_tax_57 : decode cX11_tax 57 = .ok (.iload 5, 2) := by decide +kernel
theorem dX11_tax_59 : decode cX11_tax 59 = .ok (.invokevirtual 389, 3) := by decide +kernel
theorem dX11_tax_62 : decode cX11_tax 62 = .ok (.iload_n 2, 1) := by decide +kernel
theorem dX11_tax_63 : decode cX11_tax 63 = .ok (.if_icmp .gt 9, 3) := by decide +kernel
theorem dX11_tax_66 : decode cX11_tax 66 = .ok (.iload 5, 2) := by decide +kernel
theorem dX11_tax_68 : decode cX11_tax 68 = .ok (.istore_n 3, 1) := by decide +kernel
theorem dX11_tax_69 : decode cX11_tax 69 = .ok (.goto 9, 3) := by decide +kernel
theorem dX11_tax_72 : decode cX11_tax 72 = .ok (.iload 5, 2) := by decide +kernel
theorem dX11_tax_74 : decode cX11_tax 74 = .ok (.iconst 1, 1) := by decide +kernel
theorem dX11_tax_75 : decode cX11_tax 75 = .ok (.isub, 1) := by decide +kernel
theorem dX11_tax_76 : decode cX11_tax 76 = .ok (.istore 4, 2) := by decide +kernel
theorem dX11_tax_78 : decode cX11_tax 78 = .ok (.goto (-38), 3) := by decide +kernel
theorem dX11_tax_81 : decode cX11_tax 81 = .ok (.aload_n 0, 1) := by decide +kernel
theorem dX11_tax_82 : decode cX11_tax 82 = .ok (.getfield 56, 3) := by decide +kernel
theorem dX11_tax_85 : decode cX11_tax 85 = .ok (.sipush 183, 3) := by decide +kernel
theorem dX11_tax_88 : decode cX11_tax 88 = .ok (.iload_n 1, 1) := by decide +kernel
theorem dX11_tax_89 : decode cX11_tax 89 = .ok (.iadd, 1) := by decide +kernel
theorem dX11_tax_90 : decode cX11_tax 90 = .ok (.iaload, 1) := by decide +kernel
theorem dX11_tax_91 : decode cX11_tax 91 = .ok (.iload_n 3, 1) := by decide +kernel
theorem dX11_tax_92 : decode cX11_tax 92 = .ok (.if_icmp .ge 16, 3) := by decide +kernel
theorem dX11_tax_95 : decode cX11_tax 95 = .ok (.aload_n 0, 1) := by decide +kernel
theorem dX11_tax_96 : decode cX11_tax 96 = .ok (.getfield 56, 3) := by decide +kernel
theorem dX11_tax_99 : decode cX11_tax 99 = .ok (.sipush 183, 3) := by decide +kernel
theorem dX11_tax_102 : decode cX11_tax 102 = .ok (.iload_n 1, 1) := by decide +kernel
theorem dX11_tax_103 : decode cX11_tax 103 = .ok (.iadd, 1) := by decide +kernel
theorem dX11_tax_104 : decode cX11_tax 104 = .ok (.iaload, 1) := by decide +kernel
theorem dX11_tax_105 : decode cX11_tax 105 = .ok (.goto 4, 3) := by decide +kernel
theorem dX11_tax_108 : decode cX11_tax 108 = .ok (.iload_n 3, 1) := by decide +kernel
theorem dX11_tax_109 : decode cX11_tax 109 = .ok (.ireturn, 1) := by decide +kernel
theorem dX11_dearest_0 : decode cX11_dearest 0 = .ok (.aload_n 0, 1) := by decide +kernel
theorem dX11_dearest_1 : decode cX11_dearest 1 = .ok (.iconst 0, 1) := by decide +kernel
theorem dX11_dearest_2 : decode cX11_dearest 2 = .ok (.putfield 3, 3) := by decide +kernel
theorem dX11_dearest_5 : decode cX11_dearest 5 = .ok (.aload_n 0, 1) := by decide +kernel
theorem dX11_dearest_6 : decode cX11_dearest 6 = .ok (.iload_n 1, 1) := by decide +kernel
theorem dX11_dearest_7 : decode cX11_dearest 7 = .ok (.iconst 0, 1) := by decide +kernel
theorem dX11_dearest_8 : decode cX11_dearest 8 = .ok (.bipush 60, 2) := by decide +kernel
theorem dX11_dearest_10 : decode cX11_dearest 10 = .ok (.invokestatic 330, 3) := by decide +kernel
theorem dX11_dearest_13 : decode cX11_dearest 13 = .ok (.ifCond .eq 31, 3) := by decide +kernel
theorem dX11_dearest_16 : decode cX11_dearest 16 = .ok (.iload_n 2, 1) := by decide +kernel
theorem dX11_dearest_17 : decode cX11_dearest 17 = .ok (.iconst 0, 1) := by decide +kernel
theorem dX11_dearest_18 : decode cX11_dearest 18 = .ok (.bipush 60, 2) := by decide +kernel
theorem dX11_dearest_20 : decode cX11_dearest 20 = .ok (.invokestatic 330, 3) := by decide +kernel
theorem dX11_dearest_23 : decode cX11_dearest 23 = .ok (.ifCond .eq 21, 3) := by decide +kernel
theorem dX11_dearest_26 : decode cX11_dearest 26 = .ok (.iload_n 1, 1) := by decide +kernel
theorem dX11_dearest_27 : decode cX11_dearest 27 = .ok (.iload_n 2, 1) := by decide +kernel
theorem dX11_dearest_28 : decode cX11_dearest 28 = .ok (.if_icmp .gt 16, 3) := by decide +kernel
theorem dX11_dearest_31 : decode cX11_dearest 31 = .ok (.iload_n 3, 1) := by decide +kernel
theorem dX11_dearest_32 : decode cX11_dearest 32 = .ok (.iconst 0, 1) := by decide +kernel
theorem dX11_dearest_33 : decode cX11_dearest 33 = .ok (.iconst 2, 1) := by decide +kernel
theorem dX11_dearest_34 : decode cX11_dearest 34 = .ok (.invokestatic 330, 3) := by decide +kernel
theorem dX11_dearest_37 : decode cX11_dearest 37 = .ok (.ifCond .eq 7, 3) := by decide +kernel
theorem dX11_dearest_40 : decode cX11_dearest 40 = .ok (.iconst 1, 1) := by decide +kernel
theorem dX11_dearest_41 : decode cX11_dearest 41 = .ok (.goto 4, 3) := by decide +kernel
theorem dX11_dearest_44 : decode cX11_dearest 44 = .ok (.iconst 0, 1) := by decide +kernel
theorem dX11_dearest_45 : decode cX11_dearest 45 = .ok (.iconst 1, 1) := by decide +kernel
theorem dX11_dearest_46 : decode cX11_dearest 46 = .ok (.iconst 1, 1) := by decide +kernel
theorem dX11_dearest_47 : decode cX11_dearest 47 = .ok (.invokevirtual 185, 3) := by decide +kernel
theorem dX11_dearest_50 : decode cX11_dearest 50 = .ok (.ifCond .ne 5, 3) := by decide +kernel
theorem dX11_dearest_53 : decode cX11_dearest 53 = .ok (.iconst 0, 1) := by decide +kernel
theorem dX11_dearest_54 : decode cX11_dearest 54 = .ok (.ireturn, 1) := by decide +kernel
theorem dX11_dearest_55 : decode cX11_dearest 55 = .ok (.aload_n 0, 1) := by decide +kernel
theorem dX11_dearest_56 : decode cX11_dearest 56 = .ok (.invokevirtual 285, 3) := by decide +kernel
theorem dX11_dearest_59 : decode cX11_dearest 59 = .ok (.iload_n 1, 1) := by decide +kernel
theorem dX11_dearest_60 : decode cX11_dearest 60 = .ok (.istore 4, 2) := by decide +kernel
theorem dX11_dearest_62 : decode cX11_dearest 62 = .ok (.iconst 0, 1) := by decide +kernel
theorem dX11_dearest_63 : decode cX11_dearest 63 = .ok (.istore 5, 2) := by decide +kernel
theorem dX11_dearest_65 : decode cX11_dearest 65 = .ok (.iload_n 1, 1) := by decide +kernel
theorem dX11_dearest_66 : decode cX11_dearest 66 = .ok (.istore 6, 2) := by decide +kernel
theorem dX11_dearest_68 : decode cX11_dearest 68 = .ok (.iload 6, 2) := by decide +kernel
theorem dX11_dearest_70 : decode cX11_dearest 70 = .ok (.iload_n 2, 1) := by decide +kernel
theorem dX11_dearest_71 : decode cX11_dearest 71 = .ok (.if_icmp .gt 47, 3) := by decide +kernel
theorem dX11_dearest_74 : decode cX11_dearest 74 = .ok (.iload 5, 2) := by decide +kernel
theorem dX11_dearest_76 : decode cX11_dearest 76 = .ok (.aload_n 0, 1) := by decide +kernel
theorem dX11_dearest_77 : decode cX11_dearest 77 = .ok (.iload 6, 2) := by decide +kernel
theorem dX11_dearest_79 : decode cX11_dearest 79 = .ok (.iconst 1, 1) := by decide +kernel
theorem dX11_dearest_80 : decode cX11_dearest 80 = .ok (.invokevirtual 314, 3) := by decide +kernel
theorem dX11_dearest_83 : decode cX11_dearest 83 = .ok (.iadd, 1) := by decide +kernel
theorem dX11_dearest_84 : decode cX11_dearest 84 = .ok (.istore 5, 2) := by decide +kernel
theorem dX11_dearest_86 : decode cX11_dearest 86 = .ok (.aload_n 0, 1) := by decide +kernel
theorem dX11_dearest_87 : decode cX11_dearest 87 = .ok (.iload 6, 2) := by decide +kernel
theorem dX11_dearest_89 : decode cX11_dearest 89 = .ok (.iconst 1, 1) := by decide +kernel
theorem dX11_dearest_90 : decode cX11_dearest 90 = .ok (.invokevirtual 314, 3) := by decide +kernel
theorem dX11_dearest_93 : decode cX11_dearest 93 = .ok (.aload_n 0, 1) := by decide +kernel
theorem dX11_dearest_94 : decode cX11_dearest 94 = .ok (.iload 4, 2) := by decide +kernel
theorem dX11_dearest_96 : decode cX11_dearest 96 = .ok (.iconst 1, 1) := by decide +kernel
theorem dX11_dearest_97 : decode cX11_dearest 97 = .ok (.invokevirtual 314, 3) := by decide +kernel
theorem dX11_dearest_100 : decode cX11_dearest 100 = .ok (.if_icmp .le 8, 3) := by decide +kernel
theorem dX11_dearest_103 : decode cX11_dearest 103 = .ok (.iload 6, 2) := by decide +kernel
theorem dX11_dearest_105 : decode cX11_dearest 105 = .ok (.goto 5, 3) := by decide +kernel
theorem dX11_dearest_108 : decode cX11_dearest 108 = .ok (.iload 4, 2) := by decide +kernel
theorem dX11_dearest_110 : decode cX11_dearest 110 = .ok (.istore 4, 2) := by decide +kernel
theorem dX11_dearest_112 : decode cX11_dearest 112 = .ok (.iinc 6 1, 3) := by decide +kernel
theorem dX11_dearest_115 : decode cX11_dearest 115 = .ok (.goto (-47), 3) := by decide +kernel
theorem dX11_dearest_118 : decode cX11_dearest 118 = .ok (.iload_n 3, 1) := by decide +kernel
theorem dX11_dearest_119 : decode cX11_dearest 119 = .ok (.ifCond .ne 8, 3) := by decide +kernel
theorem dX11_dearest_122 : decode cX11_dearest 122 = .ok (.iload 4, 2) := by decide +kernel
theorem dX11_dearest_124 : decode cX11_dearest 124 = .ok (.goto 20, 3) := by decide +kernel
theorem dX11_dearest_127 : decode cX11_dearest 127 = .ok (.iload_n 3, 1) := by decide +kernel
theorem dX11_dearest_128 : decode cX11_dearest 128 = .ok (.iconst 1, 1) := by decide +kernel
theorem dX11_dearest_129 : decode cX11_dearest 129 = .ok (.if_icmp .ne 13, 3) := by decide +kernel
theorem dX11_dearest_132 : decode cX11_dearest 132 = .ok (.aload_n 0, 1) := by decide +kernel
theorem dX11_dearest_133 : decode cX11_dearest 133 = .ok (.iload 4, 2) := by decide +kernel
theorem dX11_dearest_135 : decode cX11_dearest 135 = .ok (.iconst 1, 1) := by decide +kernel
theorem dX11_dearest_136 : decode cX11_dearest 136 = .ok (.invokevirtual 314, 3) := by decide +kernel
theorem dX11_dearest_139 : decode cX11_dearest 139 = .ok (.goto 5, 3) := by decide +kernel
theorem dX11_dearest_142 : decode cX11_dearest 142 = .ok (.iload 5, 2) := by decide +kernel
theorem dX11_dearest_144 : decode cX11_dearest 144 = .ok (.ireturn, 1) := by decide +kernel
theorem dX11_landlord_0 : decode cX11_landlord 0 = .ok (.aload_n 0, 1) := by decide +kernel
theorem dX11_landlord_1 : decode cX11_landlord 1 = .ok (.iconst 0, 1) := by decide +kernel
theorem dX11_landlord_2 : decode cX11_landlord 2 = .ok (.putfield 3, 3) := by decide +kernel
theorem dX11_landlord_5 : decode cX11_landlord 5 = .ok (.aload_n 0, 1) := by decide +kernel
theorem dX11_landlord_6 : decode cX11_landlord 6 = .ok (.iload_n 1, 1) := by decide +kernel
theorem dX11_landlord_7 : decode cX11_landlord 7 = .ok (.iconst 0, 1) := by decide +kernel
theorem dX11_landlord_8 : decode cX11_landlord 8 = .ok (.iconst 1, 1) := by decide +kernel
theorem dX11_landlord_9 : decode cX11_landlord 9 = .ok (.invokestatic 330, 3) := by decide +kernel
theorem dX11_landlord_12 : decode cX11_landlord 12 = .ok (.iconst 1, 1) := by decide +kernel
theorem dX11_landlord_13 : decode cX11_landlord 13 = .ok (.iconst 1, 1) := by decide +kernel
theorem dX11_landlord_14 : decode cX11_landlord 14 = .ok (.invokevirtual 185, 3) := by decide +kernel
theorem dX11_landlord_17 : decode cX11_landlord 17 = .ok (.ifCond .ne 5, 3) := by decide +kernel
theorem dX11_landlord_20 : decode cX11_landlord 20 = .ok (.iconst 0, 1) := by decide +kernel
theorem dX11_landlord_21 : decode cX11_landlord 21 = .ok (.ireturn, 1) := by decide +kernel
theorem dX11_landlord_22 : decode cX11_landlord 22 = .ok (.iconst (-1), 1) := by decide +kernel
theorem dX11_landlord_23 : decode cX11_landlord 23 = .ok (.istore_n 2, 1) := by decide +kernel
theorem dX11_landlord_24 : decode cX11_landlord 24 = .ok (.iconst 0, 1) := by decide +kernel
theorem dX11_landlord_25 : decode cX11_landlord 25 = .ok (.istore_n 3, 1) := by decide +kernel
theorem dX11_landlord_26 : decode cX11_landlord 26 = .ok (.iconst 0, 1) := by decide +kernel
theorem dX11_landlord_27 : decode cX11_landlord 27 = .ok (.istore 4, 2) := by decide +kernel
theorem dX11_landlord_29 : decode cX11_landlord 29 = .ok (.iload 4, 2) := by decide +kernel
theorem dX11_landlord_31 : decode cX11_landlord 31 = .ok (.aload_n 0, 1) := by decide +kernel
theorem dX11_landlord_32 : decode cX11_landlord 32 = .ok (.getfield 152, 3) := by decide +kernel
theorem dX11_landlord_35 : decode cX11_landlord 35 = .ok (.if_icmp .ge 76, 3) := by decide +kernel
theorem dX11_landlord_38 : decode cX11_landlord 38 = .ok (.iconst 0, 1) := by decide +kernel
theorem dX11_landlord_39 : decode cX11_landlord 39 = .ok (.istore 5, 2) := by decide +kernel
theorem dX11_landlord_41 : decode cX11_landlord 41 = .ok (.iconst 0, 1) := by decide +kernel
theorem dX11_landlord_42 : decode cX11_landlord 42 = .ok (.istore 6, 2) := by decide +kernel
theorem dX11_landlord_44 : decode cX11_landlord 44 = .ok (.iload 6, 2) := by decide +kernel
theorem dX11_landlord_46 : decode cX11_landlord 46 = .ok (.bipush 61, 2) := by decide +kernel
theorem dX11_landlord_48 : decode cX11_landlord 48 = .ok (.if_icmp .ge 42, 3) := by decide +kernel
theorem dX11_landlord_51 : decode cX11_landlord 51 = .ok (.iload 5, 2) := by decide +kernel
theorem dX11_landlord_53 : decode cX11_landlord 53 = .ok (.aload_n 0, 1) := by decide +kernel
theorem dX11_landlord_54 : decode cX11_landlord 54 = .ok (.getfield 56, 3) := by decide +kernel
theorem dX11_landlord_57 : decode cX11_landlord 57 = .ok (.iconst 0, 1) := by decide +kernel
theorem dX11_landlord_58 : decode cX11_landlord 58 = .ok (.iload 6, 2) := by decide +kernel
theorem dX11_landlord_60 : decode cX11_landlord 60 = .ok (.iadd, 1) := by decide +kernel
theorem dX11_landlord_61 : decode cX11_landlord 61 = .ok (.iaload, 1) := by decide +kernel
theorem dX11_landlord_62 : decode cX11_landlord 62 = .ok (.iload 4, 2) := by decide +kernel
theorem dX11_landlord_64 : decode cX11_landlord 64 = .ok (.if_icmp .ne 16, 3) := by decide +kernel
theorem dX11_landlord_67 : decode cX11_landlord 67 = .ok (.aload_n 0, 1) := by decide +kernel
theorem dX11_landlord_68 : decode cX11_landlord 68 = .ok (.getfield 56, 3) := by decide +kernel
theorem dX11_landlord_71 : decode cX11_landlord 71 = .ok (.bipush 61, 2) := by decide +kernel
theorem dX11_landlord_73 : decode cX11_landlord 73 = .ok (.iload 6, 2) := by decide +kernel
theorem dX11_landlord_75 : decode cX11_landlord 75 = .ok (.iadd, 1) := by decide +kernel
theorem dX11_landlord_76 : decode cX11_landlord 76 = .ok (.iaload, 1) := by decide +kernel
theorem dX11_landlord_77 : decode cX11_landlord 77 = .ok (.goto 4, 3) := by decide +kernel
theorem dX11_landlord_80 : decode cX11_landlord 80 = .ok (.iconst 0, 1) := by decide +kernel
theorem dX11_landlord_81 : decode cX11_landlord 81 = .ok (.iadd, 1) := by decide +kernel
theorem dX11_landlord_82 : decode cX11_landlord 82 = .ok (.istore 5, 2) := by decide +kernel
theorem dX11_landlord_84 : decode cX11_landlord 84 = .ok (.iinc 6 1, 3) := by decide +kernel
theorem dX11_landlord_87 : decode cX11_landlord 87 = .ok (.goto (-43), 3) := by decide +kernel
theorem dX11_landlord_90 : decode cX11_landlord 90 = .ok (.iload 5, 2) := by decide +kernel
theorem dX11_landlord_92 : decode cX11_landlord 92 = .ok (.iload_n 3, 1) := by decide +kernel
theorem dX11_landlord_93 : decode cX11_landlord 93 = .ok (.if_icmp .gt 6, 3) := by decide +kernel
theorem dX11_landlord_96 : decode cX11_landlord 96 = .ok (.goto 9, 3) := by decide +kernel
theorem dX11_landlord_99 : decode cX11_landlord 99 = .ok (.iload 4, 2) := by decide +kernel
theorem dX11_landlord_101 : decode cX11_landlord 101 = .ok (.istore_n 2, 1) := by decide +kernel
theorem dX11_landlord_102 : decode cX11_landlord 102 = .ok (.iload 5, 2) := by decide +kernel
theorem dX11_landlord_104 : decode cX11_landlord 104 = .ok (.istore_n 3, 1) := by decide +kernel
theorem dX11_landlord_105 : decode cX11_landlord 105 = .ok (.iinc 4 1, 3) := by decide +kernel
theorem dX11_landlord_108 : decode cX11_landlord 108 = .ok (.goto (-79), 3) := by decide +kernel
theorem dX11_landlord_111 : decode cX11_landlord 111 = .ok (.iload_n 1, 1) := by decide +kernel
theorem dX11_landlord_112 : decode cX11_landlord 112 = .ok (.ifCond .eq 8, 3) := by decide +kernel
theorem dX11_landlord_115 : decode cX11_landlord 115 = .ok (.iload_n 2, 1) := by decide +kernel
theorem dX11_landlord_116 : decode cX11_landlord 116 = .ok (.iconst (-1), 1) := by decide +kernel
theorem dX11_landlord_117 : decode cX11_landlord 117 = .ok (.if_icmp .ne 7, 3) := by decide +kernel
theorem dX11_landlord_120 : decode cX11_landlord 120 = .ok (.iload_n 2, 1) := by decide +kernel
theorem dX11_landlord_121 : decode cX11_landlord 121 = .ok (.goto 4, 3) := by decide +kernel
theorem dX11_landlord_124 : decode cX11_landlord 124 = .ok (.iload_n 3, 1) := by decide +kernel
theorem dX11_landlord_125 : decode cX11_landlord 125 = .ok (.ireturn, 1) := by decide +kernel
theorem dX11_common_0 : decode cX11_common 0 = .ok (.aload_n 0, 1) := by decide +kernel
theorem dX11_common_1 : decode cX11_common 1 = .ok (.iconst 0, 1) := by decide +kernel
theorem dX11_common_2 : decode cX11_common 2 = .ok (.putfield 3, 3) := by decide +kernel
theorem dX11_common_5 : decode cX11_common 5 = .ok (.aload_n 0, 1) := by decide +kernel
theorem dX11_common_6 : decode cX11_common 6 = .ok (.iload_n 1, 1) := by decide +kernel
theorem dX11_common_7 : decode cX11_common 7 = .ok (.iconst 0, 1) := by decide +kernel
theorem dX11_common_8 : decode cX11_common 8 = .ok (.iconst 1, 1) := by decide +kernel
theorem dX11_common_9 : decode cX11_common 9 = .ok (.invokestatic 330, 3) := by decide +kernel
theorem dX11_common_12 : decode cX11_common 12 = .ok (.iconst 1, 1) := by decide +kernel
theorem dX11_common_13 : decode cX11_common 13 = .ok (.iconst 1, 1) := by decide +kernel
theorem dX11_common_14 : decode cX11_common 14 = .ok (.invokevirtual 185, 3) := by decide +kernel
theorem dX11_common_17 : decode cX11_common 17 = .ok (.ifCond .ne 5, 3) := by decide +kernel
theorem dX11_common_20 : decode cX11_common 20 = .ok (.iconst 0, 1) := by decide +kernel
theorem dX11_common_21 : decode cX11_common 21 = .ok (.ireturn, 1) := by decide +kernel
theorem dX11_common_22 : decode cX11_common 22 = .ok (.aload_n 0, 1) := by decide +kernel
theorem dX11_common_23 : decode cX11_common 23 = .ok (.invokevirtual 348, 3) := by decide +kernel
theorem dX11_common_26 : decode cX11_common 26 = .ok (.iconst 0, 1) := by decide +kernel
theorem dX11_common_27 : decode cX11_common 27 = .ok (.istore_n 2, 1) := by decide +kernel
theorem dX11_common_28 : decode cX11_common 28 = .ok (.iconst 0, 1) := by decide +kernel
theorem dX11_common_29 : decode cX11_common 29 = .ok (.istore_n 3, 1) := by decide +kernel
theorem dX11_common_30 : decode cX11_common 30 = .ok (.iload_n 3, 1) := by decide +kernel
theorem dX11_common_31 : decode cX11_common 31 = .ok (.bipush 61, 2) := by decide +kernel
theorem dX11_common_33 : decode cX11_common 33 = .ok (.if_icmp .ge 46, 3) := by decide +kernel
theorem dX11_common_36 : decode cX11_common 36 = .ok (.iload_n 2, 1) := by decide +kernel
theorem dX11_common_37 : decode cX11_common 37 = .ok (.iload_n 1, 1) := by decide +kernel
theorem dX11_common_38 : decode cX11_common 38 = .ok (.ifCond .ne 15, 3) := by decide +kernel
theorem dX11_common_41 : decode cX11_common 41 = .ok (.aload_n 0, 1) := by decide +kernel
theorem dX11_common_42 : decode cX11_common 42 = .ok (.iload_n 3, 1) := by decide +kernel
theorem dX11_common_43 : decode cX11_common 43 = .ok (.iconst 1, 1) := by decide +kernel
theorem dX11_common_44 : decode cX11_common 44 = .ok (.invokevirtual 314, 3) := by decide +kernel
theorem dX11_common_47 : decode cX11_common 47 = .ok (.ifCond .ne 23, 3) := by decide +kernel
theorem dX11_common_50 : decode cX11_common 50 = .ok (.goto 16, 3) := by decide +kernel
theorem dX11_common_53 : decode cX11_common 53 = .ok (.aload_n 0, 1) := by decide +kernel
theorem dX11_common_54 : decode cX11_common 54 = .ok (.getfield 71, 3) := by decide +kernel
theorem dX11_common_57 : decode cX11_common 57 = .ok (.iload_n 3, 1) := by decide +kernel
theorem dX11_common_58 : decode cX11_common 58 = .ok (.laload, 1) := by decide +kernel
theorem dX11_common_59 : decode cX11_common 59 = .ok (.ldc2_w 343, 3) := by decide +kernel
theorem dX11_common_62 : decode cX11_common 62 = .ok (.lcmp, 1) := by decide +kernel
theorem dX11_common_63 : decode cX11_common 63 = .ok (.ifCond .ge 7, 3) := by decide +kernel
theorem dX11_common_66 : decode cX11_common 66 = .ok (.iconst 1, 1) := by decide +kernel
theorem dX11_common_67 : decode cX11_common 67 = .ok (.goto 4, 3) := by decide +kernel
theorem dX11_common_70 : decode cX11_common 70 = .ok (.iconst 0, 1) := by decide +kernel
theorem dX11_common_71 : decode cX11_common 71 = .ok (.iadd, 1) := by decide +kernel
theorem dX11_common_72 : decode cX11_common 72 = .ok (.istore_n 2, 1) := by decide +kernel
theorem dX11_common_73 : decode cX11_common 73 = .ok (.iinc 3 1, 3) := by decide +kernel
theorem dX11_common_76 : decode cX11_common 76 = .ok (.goto (-46), 3) := by decide +kernel
theorem dX11_common_79 : decode cX11_common 79 = .ok (.iload_n 2, 1) := by decide +kernel
theorem dX11_common_80 : decode cX11_common 80 = .ok (.ireturn, 1) := by decide +kernel
theorem dX11_affords_0 : decode cX11_affords 0 = .ok (.aload_n 0, 1) := by decide +kernel
theorem dX11_affords_1 : decode cX11_affords 1 = .ok (.iconst 0, 1) := by decide +kernel
theorem dX11_affords_2 : decode cX11_affords 2 = .ok (.putfield 3, 3) := by decide +kernel
theorem dX11_affords_5 : decode cX11_affords 5 = .ok (.aload_n 0, 1) := by decide +kernel
theorem dX11_affords_6 : decode cX11_affords 6 = .ok (.iload_n 1, 1) := by decide +kernel
theorem dX11_affords_7 : decode cX11_affords 7 = .ok (.iconst 1, 1) := by decide +kernel
theorem dX11_affords_8 : decode cX11_affords 8 = .ok (.invokevirtual 336, 3) := by decide +kernel
theorem dX11_affords_11 : decode cX11_affords 11 = .ok (.ifCond .eq 27, 3) := by decide +kernel
theorem dX11_affords_14 : decode cX11_affords 14 = .ok (.aload_n 0, 1) := by decide +kernel
theorem dX11_affords_15 : decode cX11_affords 15 = .ok (.iload_n 2, 1) := by decide +kernel
theorem dX11_affords_16 : decode cX11_affords 16 = .ok (.iconst 1, 1) := by decide +kernel
theorem dX11_affords_17 : decode cX11_affords 17 = .ok (.invokevirtual 340, 3) := by decide +kernel
theorem dX11_affords_20 : decode cX11_affords 20 = .ok (.ifCond .eq 18, 3) := by decide +kernel
theorem dX11_affords_23 : decode cX11_affords 23 = .ok (.aload_n 0, 1) := by decide +kernel
theorem dX11_affords_24 : decode cX11_affords 24 = .ok (.iload_n 3, 1) := by decide +kernel
theorem dX11_affords_25 : decode cX11_affords 25 = .ok (.iconst 0, 1) := by decide +kernel
theorem dX11_affords_26 : decode cX11_affords 26 = .ok (.iconst 2, 1) := by decide +kernel
theorem dX11_affords_27 : decode cX11_affords 27 = .ok (.invokestatic 330, 3) := by decide +kernel
theorem dX11_affords_30 : decode cX11_affords 30 = .ok (.iconst 2, 1) := by decide +kernel
theorem dX11_affords_31 : decode cX11_affords 31 = .ok (.iconst 1, 1) := by decide +kernel
theorem dX11_affords_32 : decode cX11_affords 32 = .ok (.invokevirtual 185, 3) := by decide +kernel
theorem dX11_affords_35 : decode cX11_affords 35 = .ok (.ifCond .ne 5, 3) := by decide +kernel
theorem dX11_affords_38 : decode cX11_affords 38 = .ok (.iconst 0, 1) := by decide +kernel
theorem dX11_affords_39 : decode cX11_affords 39 = .ok (.ireturn, 1) := by decide +kernel
theorem dX11_affords_40 : decode cX11_affords 40 = .ok (.aload_n 0, 1) := by decide +kernel
theorem dX11_affords_41 : decode cX11_affords 41 = .ok (.invokevirtual 285, 3) := by decide +kernel
theorem dX11_affords_44 : decode cX11_affords 44 = .ok (.iconst 0, 1) := by decide +kernel
theorem dX11_affords_45 : decode cX11_affords 45 = .ok (.istore 4, 2) := by decide +kernel
theorem dX11_affords_47 : decode cX11_affords 47 = .ok (.iload 4, 2) := by decide +kernel
theorem dX11_affords_49 : decode cX11_affords 49 = .ok (.sipush 999, 3) := by decide +kernel
theorem dX11_affords_52 : decode cX11_affords 52 = .ok (.if_icmp .ge 19, 3) := by decide +kernel
theorem dX11_affords_55 : decode cX11_affords 55 = .ok (.aload_n 0, 1) := by decide +kernel
theorem dX11_affords_56 : decode cX11_affords 56 = .ok (.iload_n 1, 1) := by decide +kernel
theorem dX11_affords_57 : decode cX11_affords 57 = .ok (.iload_n 2, 1) := by decide +kernel
theorem dX11_affords_58 : decode cX11_affords 58 = .ok (.iload_n 3, 1) := by decide +kernel
theorem dX11_affords_59 : decode cX11_affords 59 = .ok (.invokevirtual 320, 3) := by decide +kernel
theorem dX11_affords_62 : decode cX11_affords 62 = .ok (.ifCond .eq 9, 3) := by decide +kernel
theorem dX11_affords_65 : decode cX11_affords 65 = .ok (.iinc 4 1, 3) := by decide +kernel
theorem dX11_affords_68 : decode cX11_affords 68 = .ok (.goto (-21), 3) := by decide +kernel
theorem dX11_affords_71 : decode cX11_affords 71 = .ok (.iload 4, 2) := by decide +kernel
theorem dX11_affords_73 : decode cX11_affords 73 = .ok (.ireturn, 1) := by decide +kernel
theorem dX11_worth_0 : decode cX11_worth 0 = .ok (.aload_n 0, 1) := by decide +kernel
theorem dX11_worth_1 : decode cX11_worth 1 = .ok (.iconst 0, 1) := by decide +kernel
theorem dX11_worth_2 : decode cX11_worth 2 = .ok (.putfield 3, 3) := by decide +kernel
theorem dX11_worth_5 : decode cX11_worth 5 = .ok (.aload_n 0, 1) := by decide +kernel
theorem dX11_worth_6 : decode cX11_worth 6 = .ok (.iload_n 1, 1) := by decide +kernel
theorem dX11_worth_7 : decode cX11_worth 7 = .ok (.iconst 1, 1) := by decide +kernel
theorem dX11_worth_8 : decode cX11_worth 8 = .ok (.invokevirtual 336, 3) := by decide +kernel
theorem dX11_worth_11 : decode cX11_worth 11 = .ok (.ifCond .ne 5, 3) := by decide +kernel
theorem dX11_worth_14 : decode cX11_worth 14 = .ok (.iconst 0, 1) := by decide +kernel
theorem dX11_worth_15 : decode cX11_worth 15 = .ok (.ireturn, 1) := by decide +kernel
theorem dX11_worth_16 : decode cX11_worth 16 = .ok (.iconst 0, 1) := by decide +kernel
theorem dX11_worth_17 : decode cX11_worth 17 = .ok (.istore_n 2, 1) := by decide +kernel
theorem dX11_worth_18 : decode cX11_worth 18 = .ok (.iconst 0, 1) := by decide +kernel
theorem dX11_worth_19 : decode cX11_worth 19 = .ok (.istore_n 3, 1) := by decide +kernel
theorem dX11_worth_20 : decode cX11_worth 20 = .ok (.iload_n 3, 1) := by decide +kernel
theorem dX11_worth_21 : decode cX11_worth 21 = .ok (.bipush 61, 2) := by decide +kernel
theorem dX11_worth_23 : decode cX11_worth 23 = .ok (.if_icmp .ge 42, 3) := by decide +kernel
theorem dX11_worth_26 : decode cX11_worth 26 = .ok (.iload_n 2, 1) := by decide +kernel
theorem dX11_worth_27 : decode cX11_worth 27 = .ok (.aload_n 0, 1) := by decide +kernel
theorem dX11_worth_28 : decode cX11_worth 28 = .ok (.getfield 56, 3) := by decide +kernel
theorem dX11_worth_31 : decode cX11_worth 31 = .ok (.iconst 0, 1) := by decide +kernel
theorem dX11_worth_32 : decode cX11_worth 32 = .ok (.iload_n 3, 1) := by decide +kernel
theorem dX11_worth_33 : decode cX11_worth 33 = .ok (.iadd, 1) := by decide +kernel
theorem dX11_worth_34 : decode cX11_worth 34 = .ok (.iaload, 1) := by decide +kernel
theorem dX11_worth_35 : decode cX11_worth 35 = .ok (.iload_n 1, 1) := by decide +kernel
theorem dX11_worth_36 : decode cX11_worth 36 = .ok (.if_icmp .ne 20, 3) := by decide +kernel
theorem dX11_worth_39 : decode cX11_worth 39 = .ok (.bipush 10, 2) := by decide +kernel
theorem dX11_worth_41 : decode cX11_worth 41 = .ok (.aload_n 0, 1) := by decide +kernel
theorem dX11_worth_42 : decode cX11_worth 42 = .ok (.getfield 56, 3) := by decide +kernel
theorem dX11_worth_45 : decode cX11_worth 45 = .ok (.bipush 61, 2) := by decide +kernel
theorem dX11_worth_47 : decode cX11_worth 47 = .ok (.iload_n 3, 1) := by decide +kernel
theorem dX11_worth_48 : decode cX11_worth 48 = .ok (.iadd, 1) := by decide +kernel
theorem dX11_worth_49 : decode cX11_worth 49 = .ok (.iaload, 1) := by decide +kernel
theorem dX11_worth_50 : decode cX11_worth 50 = .ok (.imul, 1) := by decide +kernel
theorem dX11_worth_51 : decode cX11_worth 51 = .ok (.iconst 1, 1) := by decide +kernel
theorem dX11_worth_52 : decode cX11_worth 52 = .ok (.iadd, 1) := by decide +kernel
theorem dX11_worth_53 : decode cX11_worth 53 = .ok (.goto 4, 3) := by decide +kernel
theorem dX11_worth_56 : decode cX11_worth 56 = .ok (.iconst 0, 1) := by decide +kernel
theorem dX11_worth_57 : decode cX11_worth 57 = .ok (.iadd, 1) := by decide +kernel
theorem dX11_worth_58 : decode cX11_worth 58 = .ok (.istore_n 2, 1) := by decide +kernel
theorem dX11_worth_59 : decode cX11_worth 59 = .ok (.iinc 3 1, 3) := by decide +kernel
theorem dX11_worth_62 : decode cX11_worth 62 = .ok (.goto (-42), 3) := by decide +kernel
theorem dX11_worth_65 : decode cX11_worth 65 = .ok (.iload_n 2, 1) := by decide +kernel
theorem dX11_worth_66 : decode cX11_worth 66 = .ok (.ireturn, 1) := by decide +kernel
theorem dX11_run_0 : decode cX11_run 0 = .ok (.aload_n 0, 1) := by decide +kernel
theorem dX11_run_1 : decode cX11_run 1 = .ok (.iconst 0, 1) := by decide +kernel
theorem dX11_run_2 : decode cX11_run 2 = .ok (.putfield 3, 3) := by decide +kernel
theorem dX11_run_5 : decode cX11_run 5 = .ok (.aload_n 0, 1) := by decide +kernel
theorem dX11_run_6 : decode cX11_run 6 = .ok (.iload_n 1, 1) := by decide +kernel
theorem dX11_run_7 : decode cX11_run 7 = .ok (.iconst 1, 1) := by decide +kernel
theorem dX11_run_8 : decode cX11_run 8 = .ok (.invokevirtual 336, 3) := by decide +kernel
theorem dX11_run_11 : decode cX11_run 11 = .ok (.ifCond .eq 18, 3) := by decide +kernel
theorem dX11_run_14 : decode cX11_run 14 = .ok (.aload_n 0, 1) := by decide +kernel
theorem dX11_run_15 : decode cX11_run 15 = .ok (.iload_n 2, 1) := by decide +kernel
theorem dX11_run_16 : decode cX11_run 16 = .ok (.iconst 0, 1) := by decide +kernel
theorem dX11_run_17 : decode cX11_run 17 = .ok (.iconst 1, 1) := by decide +kernel
theorem dX11_run_18 : decode cX11_run 18 = .ok (.invokestatic 330, 3) := by decide +kernel
theorem dX11_run_21 : decode cX11_run 21 = .ok (.iconst 2, 1) := by decide +kernel
theorem dX11_run_22 : decode cX11_run 22 = .ok (.iconst 1, 1) := by decide +kernel
theorem dX11_run_23 : decode cX11_run 23 = .ok (.invokevirtual 185, 3) := by decide +kernel
theorem dX11_run_26 : decode cX11_run 26 = .ok (.ifCond .ne 5, 3) := by decide +kernel
theorem dX11_run_29 : decode cX11_run 29 = .ok (.iconst 0, 1) := by decide +kernel
theorem dX11_run_30 : decode cX11_run 30 = .ok (.ireturn, 1) := by decide +kernel
theorem dX11_run_31 : decode cX11_run 31 = .ok (.iconst 0, 1) := by decide +kernel
theorem dX11_run_32 : decode cX11_run 32 = .ok (.istore_n 3, 1) := by decide +kernel
theorem dX11_run_33 : decode cX11_run 33 = .ok (.iconst (-1), 1) := by decide +kernel
theorem dX11_run_34 : decode cX11_run 34 = .ok (.istore 4, 2) := by decide +kernel
theorem dX11_run_36 : decode cX11_run 36 = .ok (.iconst 0, 1) := by decide +kernel
theorem dX11_run_37 : decode cX11_run 37 = .ok (.istore 5, 2) := by decide +kernel
theorem dX11_run_39 : decode cX11_run 39 = .ok (.iload 5, 2) := by decide +kernel
theorem dX11_run_41 : decode cX11_run 41 = .ok (.bipush 61, 2) := by decide +kernel
theorem dX11_run_43 : decode cX11_run 43 = .ok (.if_icmp .ge 61, 3) := by decide +kernel
theorem dX11_run_46 : decode cX11_run 46 = .ok (.iload 5, 2) := by decide +kernel
theorem dX11_run_48 : decode cX11_run 48 = .ok (.istore 6, 2) := by decide +kernel
theorem dX11_run_50 : decode cX11_run 50 = .ok (.iload 6, 2) := by decide +kernel
theorem dX11_run_52 : decode cX11_run 52 = .ok (.bipush 61, 2) := by decide +kernel
theorem dX11_run_54 : decode cX11_run 54 = .ok (.if_icmp .ge 22, 3) := by decide +kernel
theorem dX11_run_57 : decode cX11_run 57 = .ok (.aload_n 0, 1) := by decide +kernel
theorem dX11_run_58 : decode cX11_run 58 = .ok (.getfield 56, 3) := by decide +kernel
theorem dX11_run_61 : decode cX11_run 61 = .ok (.iconst 0, 1) := by decide +kernel
theorem dX11_run_62 : decode cX11_run 62 = .ok (.iload 6, 2) := by decide +kernel
theorem dX11_run_64 : decode cX11_run 64 = .ok (.iadd, 1) := by decide +kernel
theorem dX11_run_65 : decode cX11_run 65 = .ok (.iaload, 1) := by decide +kernel
theorem dX11_run_66 : decode cX11_run 66 = .ok (.iload_n 1, 1) := by decide +kernel
theorem dX11_run_67 : decode cX11_run 67 = .ok (.if_icmp .ne 9, 3) := by decide +kernel
theorem dX11_run_70 : decode cX11_run 70 = .ok (.iinc 6 1, 3) := by decide +kernel
theorem dX11_run_73 : decode cX11_run 73 = .ok (.goto (-23), 3) := by decide +kernel
theorem dX11_run_76 : decode cX11_run 76 = .ok (.iload 6, 2) := by decide +kernel
theorem dX11_run_78 : decode cX11_run 78 = .ok (.iload 5, 2) := by decide +kernel
theorem dX11_run_80 : decode cX11_run 80 = .ok (.isub, 1) := by decide +kernel
theorem dX11_run_81 : decode cX11_run 81 = .ok (.iload_n 3, 1) := by decide +kernel
theorem dX11_run_82 : decode cX11_run 82 = .ok (.if_icmp .gt 6, 3) := by decide +kernel
theorem dX11_run_85 : decode cX11_run 85 = .ok (.goto 13, 3) := by decide +kernel
theorem dX11_run_88 : decode cX11_run 88 = .ok (.iload 6, 2) := by decide +kernel
theorem dX11_run_90 : decode cX11_run 90 = .ok (.iload 5, 2) := by decide +kernel
theorem dX11_run_92 : decode cX11_run 92 = .ok (.isub, 1) := by decide +kernel
theorem dX11_run_93 : decode cX11_run 93 = .ok (.istore_n 3, 1) := by decide +kernel
theorem dX11_run_94 : decode cX11_run 94 = .ok (.iload 5, 2) := by decide +kernel
theorem dX11_run_96 : decode cX11_run 96 = .ok (.istore 4, 2) := by decide +kernel
theorem dX11_run_98 : decode cX11_run 98 = .ok (.iinc 5 1, 3) := by decide +kernel
theorem dX11_run_101 : decode cX11_run 101 = .ok (.goto (-62), 3) := by decide +kernel
theorem dX11_run_104 : decode cX11_run 104 = .ok (.iload_n 2, 1) := by decide +kernel
theorem dX11_run_105 : decode cX11_run 105 = .ok (.ifCond .ne 7, 3) := by decide +kernel
theorem dX11_run_108 : decode cX11_run 108 = .ok (.iload_n 3, 1) := by decide +kernel
theorem dX11_run_109 : decode cX11_run 109 = .ok (.goto 5, 3) := by decide +kernel
theorem dX11_run_112 : decode cX11_run 112 = .ok (.iload 4, 2) := by decide +kernel
theorem dX11_run_114 : decode cX11_run 114 = .ok (.ireturn, 1) := by decide +kernel
theorem dX11_cheapest_0 : decode cX11_cheapest 0 = .ok (.aload_n 0, 1) := by decide +kernel
theorem dX11_cheapest_1 : decode cX11_cheapest 1 = .ok (.iconst 0, 1) := by decide +kernel
theorem dX11_cheapest_2 : decode cX11_cheapest 2 = .ok (.putfield 3, 3) := by decide +kernel
theorem dX11_cheapest_5 : decode cX11_cheapest 5 = .ok (.aload_n 0, 1) := by decide +kernel
theorem dX11_cheapest_6 : decode cX11_cheapest 6 = .ok (.iload_n 1, 1) := by decide +kernel
theorem dX11_cheapest_7 : decode cX11_cheapest 7 = .ok (.iconst 1, 1) := by decide +kernel
theorem dX11_cheapest_8 : decode cX11_cheapest 8 = .ok (.invokevirtual 340, 3) := by decide +kernel
theorem dX11_cheapest_11 : decode cX11_cheapest 11 = .ok (.ifCond .eq 18, 3) := by decide +kernel
theorem dX11_cheapest_14 : decode cX11_cheapest 14 = .ok (.aload_n 0, 1) := by decide +kernel
theorem dX11_cheapest_15 : decode cX11_cheapest 15 = .ok (.iload_n 2, 1) := by decide +kernel
theorem dX11_cheapest_16 : decode cX11_cheapest 16 = .ok (.iconst 0, 1) := by decide +kernel
theorem dX11_cheapest_17 : decode cX11_cheapest 17 = .ok (.iconst 1, 1) := by decide +kernel
theorem dX11_cheapest_18 : decode cX11_cheapest 18 = .ok (.invokestatic 330, 3) := by decide +kernel
theorem dX11_cheapest_21 : decode cX11_cheapest 21 = .ok (.iconst 2, 1) := by decide +kernel
theorem dX11_cheapest_22 : decode cX11_cheapest 22 = .ok (.iconst 1, 1) := by decide +kernel
theorem dX11_cheapest_23 : decode cX11_cheapest 23 = .ok (.invokevirtual 185, 3) := by decide +kernel
theorem dX11_cheapest_26 : decode cX11_cheapest 26 = .ok (.ifCond .ne 5, 3) := by decide +kernel
theorem dX11_cheapest_29 : decode cX11_cheapest 29 = .ok (.iconst 0, 1) := by decide +kernel
theorem dX11_cheapest_30 : decode cX11_cheapest 30 = .ok (.ireturn, 1) := by decide +kernel
theorem dX11_cheapest_31 : decode cX11_cheapest 31 = .ok (.aload_n 0, 1) := by decide +kernel
theorem dX11_cheapest_32 : decode cX11_cheapest 32 = .ok (.invokevirtual 285, 3) := by decide +kernel
theorem dX11_cheapest_35 : decode cX11_cheapest 35 = .ok (.iconst 0, 1) := by decide +kernel
theorem dX11_cheapest_36 : decode cX11_cheapest 36 = .ok (.istore_n 3, 1) := by decide +kernel
theorem dX11_cheapest_37 : decode cX11_cheapest 37 = .ok (.iconst 1, 1) := by decide +kernel
theorem dX11_cheapest_38 : decode cX11_cheapest 38 = .ok (.istore 4, 2) := by decide +kernel
theorem dX11_cheapest_40 : decode cX11_cheapest 40 = .ok (.iload 4, 2) := by decide +kernel
theorem dX11_cheapest_42 : decode cX11_cheapest 42 = .ok (.iconst 2, 1) := by decide +kernel
theorem dX11_cheapest_43 : decode cX11_cheapest 43 = .ok (.if_icmp .gt 32, 3) := by decide +kernel
theorem dX11_cheapest_46 : decode cX11_cheapest 46 = .ok (.aload_n 0, 1) := by decide +kernel
theorem dX11_cheapest_47 : decode cX11_cheapest 47 = .ok (.iload_n 1, 1) := by decide +kernel
theorem dX11_cheapest_48 : decode cX11_cheapest 48 = .ok (.iload 4, 2) := by decide +kernel
theorem dX11_cheapest_50 : decode cX11_cheapest 50 = .ok (.invokevirtual 314, 3) := by decide +kernel
theorem dX11_cheapest_53 : decode cX11_cheapest 53 = .ok (.aload_n 0, 1) := by decide +kernel
theorem dX11_cheapest_54 : decode cX11_cheapest 54 = .ok (.iload_n 1, 1) := by decide +kernel
theorem dX11_cheapest_55 : decode cX11_cheapest 55 = .ok (.iload_n 3, 1) := by decide +kernel
theorem dX11_cheapest_56 : decode cX11_cheapest 56 = .ok (.invokevirtual 314, 3) := by decide +kernel
theorem dX11_cheapest_59 : decode cX11_cheapest 59 = .ok (.if_icmp .ge 8, 3) := by decide +kernel
theorem dX11_cheapest_62 : decode cX11_cheapest 62 = .ok (.iload 4, 2) := by decide +kernel
theorem dX11_cheapest_64 : decode cX11_cheapest 64 = .ok (.goto 4, 3) := by decide +kernel
theorem dX11_cheapest_67 : decode cX11_cheapest 67 = .ok (.iload_n 3, 1) := by decide +kernel
theorem dX11_cheapest_68 : decode cX11_cheapest 68 = .ok (.istore_n 3, 1) := by decide +kernel
theorem dX11_cheapest_69 : decode cX11_cheapest 69 = .ok (.iinc 4 1, 3) := by decide +kernel
theorem dX11_cheapest_72 : decode cX11_cheapest 72 = .ok (.goto (-32), 3) := by decide +kernel
theorem dX11_cheapest_75 : decode cX11_cheapest 75 = .ok (.iload_n 2, 1) := by decide +kernel
theorem dX11_cheapest_76 : decode cX11_cheapest 76 = .ok (.ifCond .ne 7, 3) := by decide +kernel
theorem dX11_cheapest_79 : decode cX11_cheapest 79 = .ok (.iload_n 3, 1) := by decide +kernel
theorem dX11_cheapest_80 : decode cX11_cheapest 80 = .ok (.goto 9, 3) := by decide +kernel
theorem dX11_cheapest_83 : decode cX11_cheapest 83 = .ok (.aload_n 0, 1) := by decide +kernel
theorem dX11_cheapest_84 : decode cX11_cheapest 84 = .ok (.iload_n 1, 1) := by decide +kernel
theorem dX11_cheapest_85 : decode cX11_cheapest 85 = .ok (.iload_n 3, 1) := by decide +kernel
theorem dX11_cheapest_86 : decode cX11_cheapest 86 = .ok (.invokevirtual 314, 3) := by decide +kernel
theorem dX11_cheapest_89 : decode cX11_cheapest 89 = .ok (.ireturn, 1) := by decide +kernel
theorem dX11_primes_0 : decode cX11_primes 0 = .ok (.aload_n 0, 1) := by decide +kernel
theorem dX11_primes_1 : decode cX11_primes 1 = .ok (.iconst 0, 1) := by decide +kernel
theorem dX11_primes_2 : decode cX11_primes 2 = .ok (.putfield 3, 3) := by decide +kernel
theorem dX11_primes_5 : decode cX11_primes 5 = .ok (.aload_n 0, 1) := by decide +kernel
theorem dX11_primes_6 : decode cX11_primes 6 = .ok (.iload_n 1, 1) := by decide +kernel
theorem dX11_primes_7 : decode cX11_primes 7 = .ok (.iconst 1, 1) := by decide +kernel
theorem dX11_primes_8 : decode cX11_primes 8 = .ok (.invokevirtual 336, 3) := by decide +kernel
theorem dX11_primes_11 : decode cX11_primes 11 = .ok (.ifCond .ne 5, 3) := by decide +kernel
theorem dX11_primes_14 : decode cX11_primes 14 = .ok (.iconst 0, 1) := by decide +kernel
theorem dX11_primes_15 : decode cX11_primes 15 = .ok (.ireturn, 1) := by decide +kernel
theorem dX11_primes_16 : decode cX11_primes 16 = .ok (.iconst 0, 1) := by decide +kernel
theorem dX11_primes_17 : decode cX11_primes 17 = .ok (.istore_n 2, 1) := by decide +kernel
theorem dX11_primes_18 : decode cX11_primes 18 = .ok (.iconst 0, 1) := by decide +kernel
theorem dX11_primes_19 : decode cX11_primes 19 = .ok (.istore_n 3, 1) := by decide +kernel
theorem dX11_primes_20 : decode cX11_primes 20 = .ok (.iload_n 3, 1) := by decide +kernel
theorem dX11_primes_21 : decode cX11_primes 21 = .ok (.bipush 61, 2) := by decide +kernel
theorem dX11_primes_23 : decode cX11_primes 23 = .ok (.if_icmp .ge 37, 3) := by decide +kernel
theorem dX11_primes_26 : decode cX11_primes 26 = .ok (.iload_n 2, 1) := by decide +kernel
theorem dX11_primes_27 : decode cX11_primes 27 = .ok (.aload_n 0, 1) := by decide +kernel
theorem dX11_primes_28 : decode cX11_primes 28 = .ok (.getfield 56, 3) := by decide +kernel
theorem dX11_primes_31 : decode cX11_primes 31 = .ok (.iconst 0, 1) := by decide +kernel
theorem dX11_primes_32 : decode cX11_primes 32 = .ok (.iload_n 3, 1) := by decide +kernel
theorem dX11_primes_33 : decode cX11_primes 33 = .ok (.iadd, 1) := by decide +kernel
theorem dX11_primes_34 : decode cX11_primes 34 = .ok (.iaload, 1) := by decide +kernel
theorem dX11_primes_35 : decode cX11_primes 35 = .ok (.iload_n 1, 1) := by decide +kernel
theorem dX11_primes_36 : decode cX11_primes 36 = .ok (.if_icmp .ne 15, 3) := by decide +kernel
theorem dX11_primes_39 : decode cX11_primes 39 = .ok (.iload_n 3, 1) := by decide +kernel
theorem dX11_primes_40 : decode cX11_primes 40 = .ok (.invokestatic 304, 3) := by decide +kernel
theorem dX11_primes_43 : decode cX11_primes 43 = .ok (.iconst 2, 1) := by decide +kernel
theorem dX11_primes_44 : decode cX11_primes 44 = .ok (.if_icmp .ne 7, 3) := by decide +kernel
theorem dX11_primes_47 : decode cX11_primes 47 = .ok (.iconst 1, 1) := by decide +kernel
theorem dX11_primes_48 : decode cX11_primes 48 = .ok (.goto 4, 3) := by decide +kernel
theorem dX11_primes_51 : decode cX11_primes 51 = .ok (.iconst 0, 1) := by decide +kernel
theorem dX11_primes_52 : decode cX11_primes 52 = .ok (.iadd, 1) := by decide +kernel
theorem dX11_primes_53 : decode cX11_primes 53 = .ok (.istore_n 2, 1) := by decide +kernel
theorem dX11_primes_54 : decode cX11_primes 54 = .ok (.iinc 3 1, 3) := by decide +kernel
theorem dX11_primes_57 : decode cX11_primes 57 = .ok (.goto (-37), 3) := by decide +kernel
theorem dX11_primes_60 : decode cX11_primes 60 = .ok (.iload_n 2, 1) := by decide +kernel
theorem dX11_primes_61 : decode cX11_primes 61 = .ok (.ireturn, 1) := by decide +kernel
theorem dX11_poorest_0 : decode cX11_poorest 0 = .ok (.aload_n 0, 1) := by decide +kernel
theorem dX11_poorest_1 : decode cX11_poorest 1 = .ok (.iconst 0, 1) := by decide +kernel
theorem dX11_poorest_2 : decode cX11_poorest 2 = .ok (.putfield 3, 3) := by decide +kernel
theorem dX11_poorest_5 : decode cX11_poorest 5 = .ok (.aload_n 0, 1) := by decide +kernel
theorem dX11_poorest_6 : decode cX11_poorest 6 = .ok (.iload_n 1, 1) := by decide +kernel
theorem dX11_poorest_7 : decode cX11_poorest 7 = .ok (.iconst 0, 1) := by decide +kernel
theorem dX11_poorest_8 : decode cX11_poorest 8 = .ok (.iconst 1, 1) := by decide +kernel
theorem dX11_poorest_9 : decode cX11_poorest 9 = .ok (.invokestatic 330, 3) := by decide +kernel
theorem dX11_poorest_12 : decode cX11_poorest 12 = .ok (.iconst 1, 1) := by decide +kernel
theorem dX11_poorest_13 : decode cX11_poorest 13 = .ok (.iconst 1, 1) := by decide +kernel
theorem dX11_poorest_14 : decode cX11_poorest 14 = .ok (.invokevirtual 185, 3) := by decide +kernel
theorem dX11_poorest_17 : decode cX11_poorest 17 = .ok (.ifCond .ne 5, 3) := by decide +kernel
theorem dX11_poorest_20 : decode cX11_poorest 20 = .ok (.iconst 0, 1) := by decide +kernel
theorem dX11_poorest_21 : decode cX11_poorest 21 = .ok (.ireturn, 1) := by decide +kernel
theorem dX11_poorest_22 : decode cX11_poorest 22 = .ok (.iconst (-1), 1) := by decide +kernel
theorem dX11_poorest_23 : decode cX11_poorest 23 = .ok (.istore_n 2, 1) := by decide +kernel
theorem dX11_poorest_24 : decode cX11_poorest 24 = .ok (.iconst 0, 1) := by decide +kernel
theorem dX11_poorest_25 : decode cX11_poorest 25 = .ok (.istore_n 3, 1) := by decide +kernel
theorem dX11_poorest_26 : decode cX11_poorest 26 = .ok (.iload_n 3, 1) := by decide +kernel
theorem dX11_poorest_27 : decode cX11_poorest 27 = .ok (.aload_n 0, 1) := by decide +kernel
theorem dX11_poorest_28 : decode cX11_poorest 28 = .ok (.getfield 152, 3) := by decide +kernel
theorem dX11_poorest_31 : decode cX11_poorest 31 = .ok (.if_icmp .ge 39, 3) := by decide +kernel
theorem dX11_poorest_34 : decode cX11_poorest 34 = .ok (.iload_n 2, 1) := by decide +kernel
theorem dX11_poorest_35 : decode cX11_poorest 35 = .ok (.iconst (-1), 1) := by decide +kernel
theorem dX11_poorest_36 : decode cX11_poorest 36 = .ok (.if_icmp .eq 26, 3) := by decide +kernel
theorem dX11_poorest_39 : decode cX11_poorest 39 = .ok (.aload_n 0, 1) := by decide +kernel
theorem dX11_poorest_40 : decode cX11_poorest 40 = .ok (.getfield 56, 3) := by decide +kernel
theorem dX11_poorest_43 : decode cX11_poorest 43 = .ok (.sipush 183, 3) := by decide +kernel
theorem dX11_poorest_46 : decode cX11_poorest 46 = .ok (.iload_n 3, 1) := by decide +kernel
theorem dX11_poorest_47 : decode cX11_poorest 47 = .ok (.iadd, 1) := by decide +kernel
theorem dX11_poorest_48 : decode cX11_poorest 48 = .ok (.iaload, 1) := by decide +kernel
theorem dX11_poorest_49 : decode cX11_poorest 49 = .ok (.aload_n 0, 1) := by decide +kernel
theorem dX11_poorest_50 : decode cX11_poorest 50 = .ok (.getfield 56, 3) := by decide +kernel
theorem dX11_poorest_53 : decode cX11_poorest 53 = .ok (.sipush 183, 3) := by decide +kernel
theorem dX11_poorest_56 : decode cX11_poorest 56 = .ok (.iload_n 2, 1) := by decide +kernel
theorem dX11_poorest_57 : decode cX11_poorest 57 = .ok (.iadd, 1) := by decide +kernel
theorem dX11_poorest_58 : decode cX11_poorest 58 = .ok (.iaload, 1) := by decide +kernel
theorem dX11_poorest_59 : decode cX11_poorest 59 = .ok (.if_icmp .ge 5, 3) := by decide +kernel
theorem dX11_poorest_62 : decode cX11_poorest 62 = .ok (.iload_n 3, 1) := by decide +kernel
theorem dX11_poorest_63 : decode cX11_poorest 63 = .ok (.istore_n 2, 1) := by decide +kernel
theorem dX11_poorest_64 : decode cX11_poorest 64 = .ok (.iinc 3 1, 3) := by decide +kernel
theorem dX11_poorest_67 : decode cX11_poorest 67 = .ok (.goto (-41), 3) := by decide +kernel
theorem dX11_poorest_70 : decode cX11_poorest 70 = .ok (.iload_n 1, 1) := by decide +kernel
theorem dX11_poorest_71 : decode cX11_poorest 71 = .ok (.ifCond .eq 8, 3) := by decide +kernel
theorem dX11_poorest_74 : decode cX11_poorest 74 = .ok (.iload_n 2, 1) := by decide +kernel
theorem dX11_poorest_75 : decode cX11_poorest 75 = .ok (.iconst (-1), 1) := by decide +kernel
theorem dX11_poorest_76 : decode cX11_poorest 76 = .ok (.if_icmp .ne 7, 3) := by decide +kernel
theorem dX11_poorest_79 : decode cX11_poorest 79 = .ok (.iload_n 2, 1) := by decide +kernel
theorem dX11_poorest_80 : decode cX11_poorest 80 = .ok (.goto 13, 3) := by decide +kernel
theorem dX11_poorest_83 : decode cX11_poorest 83 = .ok (.aload_n 0, 1) := by decide +kernel
theorem dX11_poorest_84 : decode cX11_poorest 84 = .ok (.getfield 56, 3) := by decide +kernel
theorem dX11_poorest_87 : decode cX11_poorest 87 = .ok (.sipush 183, 3) := by decide +kernel
theorem dX11_poorest_90 : decode cX11_poorest 90 = .ok (.iload_n 2, 1) := by decide +kernel
theorem dX11_poorest_91 : decode cX11_poorest 91 = .ok (.iadd, 1) := by decide +kernel
theorem dX11_poorest_92 : decode cX11_poorest 92 = .ok (.iaload, 1) := by decide +kernel
theorem dX11_poorest_93 : decode cX11_poorest 93 = .ok (.ireturn, 1) := by decide +kernel
theorem dX11_sayable_0 : decode cX11_sayable 0 = .ok (.aload_n 0, 1) := by decide +kernel
theorem dX11_sayable_1 : decode cX11_sayable 1 = .ok (.iconst 0, 1) := by decide +kernel
theorem dX11_sayable_2 : decode cX11_sayable 2 = .ok (.putfield 3, 3) := by decide +kernel
theorem dX11_sayable_5 : decode cX11_sayable 5 = .ok (.aload_n 0, 1) := by decide +kernel
theorem dX11_sayable_6 : decode cX11_sayable 6 = .ok (.iload_n 1, 1) := by decide +kernel
theorem dX11_sayable_7 : decode cX11_sayable 7 = .ok (.iconst 0, 1) := by decide +kernel
theorem dX11_sayable_8 : decode cX11_sayable 8 = .ok (.bipush 99, 2) := by decide +kernel
theorem dX11_sayable_10 : decode cX11_sayable 10 = .ok (.invokestatic 330, 3) := by decide +kernel
theorem dX11_sayable_13 : decode cX11_sayable 13 = .ok (.ifCond .eq 16, 3) := by decide +kernel
theorem dX11_sayable_16 : decode cX11_sayable 16 = .ok (.iload_n 2, 1) := by decide +kernel
theorem dX11_sayable_17 : decode cX11_sayable 17 = .ok (.iconst 0, 1) := by decide +kernel
theorem dX11_sayable_18 : decode cX11_sayable 18 = .ok (.iconst 1, 1) := by decide +kernel
theorem dX11_sayable_19 : decode cX11_sayable 19 = .ok (.invokestatic 330, 3) := by decide +kernel
theorem dX11_sayable_22 : decode cX11_sayable 22 = .ok (.ifCond .eq 7, 3) := by decide +kernel
theorem dX11_sayable_25 : decode cX11_sayable 25 = .ok (.iconst 1, 1) := by decide +kernel
theorem dX11_sayable_26 : decode cX11_sayable 26 = .ok (.goto 4, 3) := by decide +kernel
theorem dX11_sayable_29 : decode cX11_sayable 29 = .ok (.iconst 0, 1) := by decide +kernel
theorem dX11_sayable_30 : decode cX11_sayable 30 = .ok (.iconst 1, 1) := by decide +kernel
theorem dX11_sayable_31 : decode cX11_sayable 31 = .ok (.iconst 1, 1) := by decide +kernel
theorem dX11_sayable_32 : decode cX11_sayable 32 = .ok (.invokevirtual 185, 3) := by decide +kernel
theorem dX11_sayable_35 : decode cX11_sayable 35 = .ok (.ifCond .ne 5, 3) := by decide +kernel
theorem dX11_sayable_38 : decode cX11_sayable 38 = .ok (.iconst 0, 1) := by decide +kernel
theorem dX11_sayable_39 : decode cX11_sayable 39 = .ok (.ireturn, 1) := by decide +kernel
theorem dX11_sayable_40 : decode cX11_sayable 40 = .ok (.aload_n 0, 1) := by decide +kernel
theorem dX11_sayable_41 : decode cX11_sayable 41 = .ok (.invokevirtual 348, 3) := by decide +kernel
theorem dX11_sayable_44 : decode cX11_sayable 44 = .ok (.iconst 0, 1) := by decide +kernel
theorem dX11_sayable_45 : decode cX11_sayable 45 = .ok (.istore_n 3, 1) := by decide +kernel
theorem dX11_sayable_46 : decode cX11_sayable 46 = .ok (.iconst (-1), 1) := by decide +kernel
theorem dX11_sayable_47 : decode cX11_sayable 47 = .ok (.istore 4, 2) := by decide +kernel
theorem dX11_sayable_49 : decode cX11_sayable 49 = .ok (.iconst 0, 1) := by decide +kernel
theorem dX11_sayable_50 : decode cX11_sayable 50 = .ok (.istore 5, 2) := by decide +kernel
theorem dX11_sayable_52 : decode cX11_sayable 52 = .ok (.iload 5, 2) := by decide +kernel
theorem dX11_sayable_54 : decode cX11_sayable 54 = .ok (.bipush 61, 2) := by decide +kernel
theorem dX11_sayable_56 : decode cX11_sayable 56 = .ok (.if_icmp .ge 36, 3) := by decide +kernel
theorem dX11_sayable_59 : decode cX11_sayable 59 = .ok (.aload_n 0, 1) := by decide +kernel
theorem dX11_sayable_60 : decode cX11_sayable 60 = .ok (.getfield 71, 3) := by decide +kernel
theorem dX11_sayable_63 : decode cX11_sayable 63 = .ok (.iload 5, 2) := by decide +kernel
theorem dX11_sayable_65 : decode cX11_sayable 65 = .ok (.laload, 1) := by decide +kernel
theorem dX11_sayable_66 : decode cX11_sayable 66 = .ok (.ldc2_w 343, 3) := by decide +kernel
theorem dX11_sayable_69 : decode cX11_sayable 69 = .ok (.ldiv, 1) := by decide +kernel
theorem dX11_sayable_70 : decode cX11_sayable 70 = .ok (.iload_n 1, 1) := by decide +kernel
theorem dX11_sayable_71 : decode cX11_sayable 71 = .ok (.i2l, 1) := by decide +kernel
theorem dX11_sayable_72 : decode cX11_sayable 72 = .ok (.lcmp, 1) := by decide +kernel
theorem dX11_sayable_73 : decode cX11_sayable 73 = .ok (.ifCond .le 6, 3) := by decide +kernel
theorem dX11_sayable_76 : decode cX11_sayable 76 = .ok (.goto 10, 3) := by decide +kernel
theorem dX11_sayable_79 : decode cX11_sayable 79 = .ok (.iinc 3 1, 3) := by decide +kernel
theorem dX11_sayable_82 : decode cX11_sayable 82 = .ok (.iload 5, 2) := by decide +kernel
theorem dX11_sayable_84 : decode cX11_sayable 84 = .ok (.istore 4, 2) := by decide +kernel
theorem dX11_sayable_86 : decode cX11_sayable 86 = .ok (.iinc 5 1, 3) := by decide +kernel
theorem dX11_sayable_89 : decode cX11_sayable 89 = .ok (.goto (-37), 3) := by decide +kernel
theorem dX11_sayable_92 : decode cX11_sayable 92 = .ok (.iload_n 2, 1) := by decide +kernel
theorem dX11_sayable_93 : decode cX11_sayable 93 = .ok (.ifCond .ne 7, 3) := by decide +kernel
theorem dX11_sayable_96 : decode cX11_sayable 96 = .ok (.iload_n 3, 1) := by decide +kernel
theorem dX11_sayable_97 : decode cX11_sayable 97 = .ok (.goto 5, 3) := by decide +kernel
theorem dX11_sayable_100 : decode cX11_sayable 100 = .ok (.iload 4, 2) := by decide +kernel
theorem dX11_sayable_102 : decode cX11_sayable 102 = .ok (.ireturn, 1) := by decide +kernel
theorem dX11_draws_0 : decode cX11_draws 0 = .ok (.aload_n 0, 1) := by decide +kernel
theorem dX11_draws_1 : decode cX11_draws 1 = .ok (.aload_n 0, 1) := by decide +kernel
theorem dX11_draws_2 : decode cX11_draws 2 = .ok (.getfield 392, 3) := by decide +kernel
theorem dX11_draws_5 : decode cX11_draws 5 = .ok (.ldc_w 395, 3) := by decide +kernel
theorem dX11_draws_8 : decode cX11_draws 8 = .ok (.imul, 1) := by decide +kernel
theorem dX11_draws_9 : decode cX11_draws 9 = .ok (.sipush 12345, 3) := by decide +kernel
theorem dX11_draws_12 : decode cX11_draws 12 = .ok (.iadd, 1) := by decide +kernel
theorem dX11_draws_13 : decode cX11_draws 13 = .ok (.putfield 392, 3) := by decide +kernel
theorem dX11_draws_16 : decode cX11_draws 16 = .ok (.aload_n 0, 1) := by decide +kernel
theorem dX11_draws_17 : decode cX11_draws 17 = .ok (.getfield 392, 3) := by decide +kernel
theorem dX11_draws_20 : decode cX11_draws 20 = .ok (.bipush 16, 2) := by decide +kernel
theorem dX11_draws_22 : decode cX11_draws 22 = .ok (.ishr, 1) := by decide +kernel
theorem dX11_draws_23 : decode cX11_draws 23 = .ok (.sipush 32767, 3) := by decide +kernel
theorem dX11_draws_26 : decode cX11_draws 26 = .ok (.iand, 1) := by decide +kernel
theorem dX11_draws_27 : decode cX11_draws 27 = .ok (.iload_n 1, 1) := by decide +kernel
theorem dX11_draws_28 : decode cX11_draws 28 = .ok (.irem, 1) := by decide +kernel
theorem dX11_draws_29 : decode cX11_draws 29 = .ok (.ireturn, 1) := by decide +kernel
theorem dX11_yearGoes_0 : decode cX11_yearGoes 0 = .ok (.aload_n 0, 1) := by decide +kernel
theorem dX11_yearGoes_1 : decode cX11_yearGoes 1 = .ok (.invokevirtual 285, 3) := by decide +kernel
theorem dX11_yearGoes_4 : decode cX11_yearGoes 4 = .ok (.aload_n 0, 1) := by decide +kernel
theorem dX11_yearGoes_5 : decode cX11_yearGoes 5 = .ok (.iload_n 1, 1) := by decide +kernel
theorem dX11_yearGoes_6 : decode cX11_yearGoes 6 = .ok (.putfield 392, 3) := by decide +kernel
theorem dX11_yearGoes_9 : decode cX11_yearGoes 9 = .ok (.aload_n 0, 1) := by decide +kernel
theorem dX11_yearGoes_10 : decode cX11_yearGoes 10 = .ok (.iconst 0, 1) := by decide +kernel
theorem dX11_yearGoes_11 : decode cX11_yearGoes 11 = .ok (.putfield 396, 3) := by decide +kernel
theorem dX11_yearGoes_14 : decode cX11_yearGoes 14 = .ok (.iconst 0, 1) := by decide +kernel
theorem dX11_yearGoes_15 : decode cX11_yearGoes 15 = .ok (.istore_n 3, 1) := by decide +kernel
theorem dX11_yearGoes_16 : decode cX11_yearGoes 16 = .ok (.iload_n 3, 1) := by decide +kernel
theorem dX11_yearGoes_17 : decode cX11_yearGoes 17 = .ok (.bipush 61, 2) := by decide +kernel
theorem dX11_yearGoes_19 : decode cX11_yearGoes 19 = .ok (.if_icmp .ge 16, 3) := by decide +kernel
theorem dX11_yearGoes_22 : decode cX11_yearGoes 22 = .ok (.aload_n 0, 1) := by decide +kernel
theorem dX11_yearGoes_23 : decode cX11_yearGoes 23 = .ok (.getfield 87, 3) := by decide +kernel
theorem dX11_yearGoes_26 : decode cX11_yearGoes 26 = .ok (.iload_n 3, 1) := by decide +kernel
theorem dX11_yearGoes_27 : decode cX11_yearGoes 27 = .ok (.iconst 0, 1) := by decide +kernel
theorem dX11_yearGoes_28 : decode cX11_yearGoes 28 = .ok (.bastore, 1) := by decide +kernel
theorem dX11_yearGoes_29 : decode cX11_yearGoes 29 = .ok (.iinc 3 1, 3) := by decide +kernel
theorem dX11_yearGoes_32 : decode cX11_yearGoes 32 = .ok (.goto (-16), 3) := by decide +kernel
theorem dX11_yearGoes_35 : decode cX11_yearGoes 35 = .ok (.iconst 1, 1) := by decide +kernel
theorem dX11_yearGoes_36 : decode cX11_yearGoes 36 = .ok (.istore_n 3, 1) := by decide +kernel
theorem dX11_yearGoes_37 : decode cX11_yearGoes 37 = .ok (.iload_n 3, 1) := by decide +kernel
theorem dX11_yearGoes_38 : decode cX11_yearGoes 38 = .ok (.iload_n 2, 1) := by decide +kernel
theorem dX11_yearGoes_39 : decode cX11_yearGoes 39 = .ok (.if_icmp .gt 79, 3) := by decide +kernel
theorem dX11_yearGoes_42 : decode cX11_yearGoes 42 = .ok (.aload_n 0, 1) := by decide +kernel
theorem dX11_yearGoes_43 : decode cX11_yearGoes 43 = .ok (.getfield 152, 3) := by decide +kernel
theorem dX11_yearGoes_46 : decode cX11_yearGoes 46 = .ok (.ifCond .le 72, 3) := by decide +kernel
theorem dX11_yearGoes_49 : decode cX11_yearGoes 49 = .ok (.aload_n 0, 1) := by decide +kernel
theorem dX11_yearGoes_50 : decode cX11_yearGoes 50 = .ok (.aload_n 0, 1) := by decide +kernel
theorem dX11_yearGoes_51 : decode cX11_yearGoes 51 = .ok (.getfield 152, 3) := by decide +kernel
theorem dX11_yearGoes_54 : decode cX11_yearGoes 54 = .ok (.invokevirtual 399, 3) := by decide +kernel
theorem dX11_yearGoes_57 : decode cX11_yearGoes 57 = .ok (.istore 4, 2) := by decide +kernel
theorem dX11_yearGoes_59 : decode cX11_yearGoes 59 = .ok (.aload_n 0, 1) := by decide +kernel
theorem dX11_yearGoes_60 : decode cX11_yearGoes 60 = .ok (.bipush 61, 2) := by decide +kernel
theorem dX11_yearGoes_62 : decode cX11_yearGoes 62 = .ok (.invokevirtual 399, 3) := by decide +kernel
theorem dX11_yearGoes_65 : decode cX11_yearGoes 65 = .ok (.istore 5, 2) := by decide +kernel
theorem dX11_yearGoes_67 : decode cX11_yearGoes 67 = .ok (.aload_n 0, 1) := by decide +kernel
theorem dX11_yearGoes_68 : decode cX11_yearGoes 68 = .ok (.iload 4, 2) := by decide +kernel
theorem dX11_yearGoes_70 : decode cX11_yearGoes 70 = .ok (.iload 5, 2) := by decide +kernel
theorem dX11_yearGoes_72 : decode cX11_yearGoes 72 = .ok (.aload_n 0, 1) := by decide +kernel
theorem dX11_yearGoes_73 : decode cX11_yearGoes 73 = .ok (.iconst 3, 1) := by decide +kernel
theorem dX11_yearGoes_74 : decode cX11_yearGoes 74 = .ok (.invokevirtual 399, 3) := by decide +kernel
theorem dX11_yearGoes_77 : decode cX11_yearGoes 77 = .ok (.invokevirtual 320, 3) := by decide +kernel
theorem dX11_yearGoes_80 : decode cX11_yearGoes 80 = .ok (.ifCond .eq 21, 3) := by decide +kernel
theorem dX11_yearGoes_83 : decode cX11_yearGoes 83 = .ok (.aload_n 0, 1) := by decide +kernel
theorem dX11_yearGoes_84 : decode cX11_yearGoes 84 = .ok (.dup, 1) := by decide +kernel
theorem dX11_yearGoes_85 : decode cX11_yearGoes 85 = .ok (.getfield 396, 3) := by decide +kernel
theorem dX11_yearGoes_88 : decode cX11_yearGoes 88 = .ok (.iconst 1, 1) := by decide +kernel
theorem dX11_yearGoes_89 : decode cX11_yearGoes 89 = .ok (.iadd, 1) := by decide +kernel
theorem dX11_yearGoes_90 : decode cX11_yearGoes 90 = .ok (.putfield 396, 3) := by decide +kernel
theorem dX11_yearGoes_93 : decode cX11_yearGoes 93 = .ok (.aload_n 0, 1) := by decide +kernel
theorem dX11_yearGoes_94 : decode cX11_yearGoes 94 = .ok (.getfield 87, 3) := by decide +kernel
theorem dX11_yearGoes_97 : decode cX11_yearGoes 97 = .ok (.iload 5, 2) := by decide +kernel
theorem dX11_yearGoes_99 : decode cX11_yearGoes 99 = .ok (.iconst 1, 1) := by decide +kernel
theorem dX11_yearGoes_100 : decode cX11_yearGoes 100 = .ok (.bastore, 1) := by decide +kernel
theorem dX11_yearGoes_101 : decode cX11_yearGoes 101 = .ok (.iload_n 3, 1) := by decide +kernel
theorem dX11_yearGoes_102 : decode cX11_yearGoes 102 = .ok (.bipush 8, 2) := by decide +kernel
theorem dX11_yearGoes_104 : decode cX11_yearGoes 104 = .ok (.irem, 1) := by decide +kernel
theorem dX11_yearGoes_105 : decode cX11_yearGoes 105 = .ok (.ifCond .ne 7, 3) := by decide +kernel
theorem dX11_yearGoes_108 : decode cX11_yearGoes 108 = .ok (.aload_n 0, 1) := by decide +kernel
theorem dX11_yearGoes_109 : decode cX11_yearGoes 109 = .ok (.invokevirtual 327, 3) := by decide +kernel
theorem dX11_yearGoes_112 : decode cX11_yearGoes 112 = .ok (.iinc 3 1, 3) := by decide +kernel
theorem dX11_yearGoes_115 : decode cX11_yearGoes 115 = .ok (.goto (-78), 3) := by decide +kernel
theorem dX11_yearGoes_118 : decode cX11_yearGoes 118 = .ok (.return_, 1) := by decide +kernel
theorem dX11_year_0 : decode cX11_year 0 = .ok (.aload_n 0, 1) := by decide +kernel
theorem dX11_year_1 : decode cX11_year 1 = .ok (.iconst 0, 1) := by decide +kernel
theorem dX11_year_2 : decode cX11_year 2 = .ok (.putfield 3, 3) := by decide +kernel
theorem dX11_year_5 : decode cX11_year 5 = .ok (.aload_n 0, 1) := by decide +kernel
theorem dX11_year_6 : decode cX11_year 6 = .ok (.iload_n 2, 1) := by decide +kernel
theorem dX11_year_7 : decode cX11_year 7 = .ok (.iconst 1, 1) := by decide +kernel
theorem dX11_year_8 : decode cX11_year 8 = .ok (.bipush 96, 2) := by decide +kernel
theorem dX11_year_10 : decode cX11_year 10 = .ok (.invokestatic 330, 3) := by decide +kernel
theorem dX11_year_13 : decode cX11_year 13 = .ok (.ifCond .eq 16, 3) := by decide +kernel
theorem dX11_year_16 : decode cX11_year 16 = .ok (.iload_n 3, 1) := by decide +kernel
theorem dX11_year_17 : decode cX11_year 17 = .ok (.iconst 0, 1) := by decide +kernel
theorem dX11_year_18 : decode cX11_year 18 = .ok (.iconst 3, 1) := by decide +kernel
theorem dX11_year_19 : decode cX11_year 19 = .ok (.invokestatic 330, 3) := by decide +kernel
theorem dX11_year_22 : decode cX11_year 22 = .ok (.ifCond .eq 7, 3) := by decide +kernel
theorem dX11_year_25 : decode cX11_year 25 = .ok (.iconst 1, 1) := by decide +kernel
theorem dX11_year_26 : decode cX11_year 26 = .ok (.goto 4, 3) := by decide +kernel
theorem dX11_year_29 : decode cX11_year 29 = .ok (.iconst 0, 1) := by decide +kernel
theorem dX11_year_30 : decode cX11_year 30 = .ok (.iconst 1, 1) := by decide +kernel
theorem dX11_year_31 : decode cX11_year 31 = .ok (.iconst 1, 1) := by decide +kernel
theorem dX11_year_32 : decode cX11_year 32 = .ok (.invokevirtual 185, 3) := by decide +kernel
theorem dX11_year_35 : decode cX11_year 35 = .ok (.ifCond .ne 5, 3) := by decide +kernel
theorem dX11_year_38 : decode cX11_year 38 = .ok (.iconst 0, 1) := by decide +kernel
theorem dX11_year_39 : decode cX11_year 39 = .ok (.ireturn, 1) := by decide +kernel
theorem dX11_year_40 : decode cX11_year 40 = .ok (.aload_n 0, 1) := by decide +kernel
theorem dX11_year_41 : decode cX11_year 41 = .ok (.iload_n 1, 1) := by decide +kernel
theorem dX11_year_42 : decode cX11_year 42 = .ok (.iload_n 2, 1) := by decide +kernel
theorem dX11_year_43 : decode cX11_year 43 = .ok (.invokevirtual 402, 3) := by decide +kernel
theorem dX11_year_46 : decode cX11_year 46 = .ok (.iload_n 3, 1) := by decide +kernel
theorem dX11_year_47 : decode cX11_year 47 = .ok (.iconst 2, 1) := by decide +kernel
theorem dX11_year_48 : decode cX11_year 48 = .ok (.if_icmp .ge 22, 3) := by decide +kernel
theorem dX11_year_51 : decode cX11_year 51 = .ok (.iload_n 3, 1) := by decide +kernel
theorem dX11_year_52 : decode cX11_year 52 = .ok (.ifCond .ne 10, 3) := by decide +kernel
theorem dX11_year_55 : decode cX11_year 55 = .ok (.aload_n 0, 1) := by decide +kernel
theorem dX11_year_56 : decode cX11_year 56 = .ok (.getfield 396, 3) := by decide +kernel
theorem dX11_year_59 : decode cX11_year 59 = .ok (.goto 10, 3) := by decide +kernel
theorem dX11_year_62 : decode cX11_year 62 = .ok (.aload_n 0, 1) := by decide +kernel
theorem dX11_year_63 : decode cX11_year 63 = .ok (.sipush 183, 3) := by decide +kernel
theorem dX11_year_66 : decode cX11_year 66 = .ok (.invokevirtual 333, 3) := by decide +kernel
theorem dX11_year_69 : decode cX11_year 69 = .ok (.ireturn, 1) := by decide +kernel
theorem dX11_year_70 : decode cX11_year 70 = .ok (.iconst 0, 1) := by decide +kernel
theorem dX11_year_71 : decode cX11_year 71 = .ok (.istore 4, 2) := by decide +kernel
theorem dX11_year_73 : decode cX11_year 73 = .ok (.iload_n 3, 1) := by decide +kernel
theorem dX11_year_74 : decode cX11_year 74 = .ok (.iconst 2, 1) := by decide +kernel
theorem dX11_year_75 : decode cX11_year 75 = .ok (.if_icmp .ne 55, 3) := by decide +kernel
theorem dX11_year_78 : decode cX11_year 78 = .ok (.iconst 0, 1) := by decide +kernel
theorem dX11_year_79 : decode cX11_year 79 = .ok (.istore 5, 2) := by decide +kernel
theorem dX11_year_81 : decode cX11_year 81 = .ok (.iload 5, 2) := by decide +kernel
theorem dX11_year_83 : decode cX11_year 83 = .ok (.aload_n 0, 1) := by decide +kernel
theorem dX11_year_84 : decode cX11_year 84 = .ok (.getfield 152, 3) := by decide +kernel
theorem dX11_year_87 : decode cX11_year 87 = .ok (.if_icmp .ge 43, 3) := by decide +kernel
theorem dX11_year_90 : decode cX11_year 90 = .ok (.aload_n 0, 1) := by decide +kernel
theorem dX11_year_91 : decode cX11_year 91 = .ok (.getfield 59, 3) := by decide +kernel
theorem dX11_year_94 : decode cX11_year 94 = .ok (.sipush 183, 3) := by decide +kernel
theorem dX11_year_97 : decode cX11_year 97 = .ok (.iload 5, 2) := by decide +kernel
theorem dX11_year_99 : decode cX11_year 99 = .ok (.iadd, 1) := by decide +kernel
theorem dX11_year_100 : decode cX11_year 100 = .ok (.iaload, 1) := by decide +kernel
theorem dX11_year_101 : decode cX11_year 101 = .ok (.iload 4, 2) := by decide +kernel
theorem dX11_year_103 : decode cX11_year 103 = .ok (.if_icmp .le 17, 3) := by decide +kernel
theorem dX11_year_106 : decode cX11_year 106 = .ok (.aload_n 0, 1) := by decide +kernel
theorem dX11_year_107 : decode cX11_year 107 = .ok (.getfield 59, 3) := by decide +kernel
theorem dX11_year_110 : decode cX11_year 110 = .ok (.sipush 183, 3) := by decide +kernel
theorem dX11_year_113 : decode cX11_year 113 = .ok (.iload 5, 2) := by decide +kernel
theorem dX11_year_115 : decode cX11_year 115 = .ok (.iadd, 1) := by decide +kernel
theorem dX11_year_116 : decode cX11_year 116 = .ok (.iaload, 1) := by decide +kernel
theorem dX11_year_117 : decode cX11_year 117 = .ok (.goto 5, 3) := by decide +kernel
theorem dX11_year_120 : decode cX11_year 120 = .ok (.iload 4, 2) := by decide +kernel
theorem dX11_year_122 : decode cX11_year 122 = .ok (.istore 4, 2) := by decide +kernel
theorem dX11_year_124 : decode cX11_year 124 = .ok (.iinc 5 1, 3) := by decide +kernel
theorem dX11_year_127 : decode cX11_year 127 = .ok (.goto (-46), 3) := by decide +kernel
theorem dX11_year_130 : decode cX11_year 130 = .ok (.iload_n 3, 1) := by decide +kernel
theorem dX11_year_131 : decode cX11_year 131 = .ok (.iconst 3, 1) := by decide +kernel
theorem dX11_year_132 : decode cX11_year 132 = .ok (.if_icmp .ne 39, 3) := by decide +kernel
theorem dX11_year_135 : decode cX11_year 135 = .ok (.iconst 0, 1) := by decide +kernel
theorem dX11_year_136 : decode cX11_year 136 = .ok (.istore 5, 2) := by decide +kernel
theorem dX11_year_138 : decode cX11_year 138 = .ok (.iload 5, 2) := by decide +kernel
theorem dX11_year_140 : decode cX11_year 140 = .ok (.bipush 61, 2) := by decide +kernel
theorem dX11_year_142 : decode cX11_year 142 = .ok (.if_icmp .ge 29, 3) := by decide +kernel
theorem dX11_year_145 : decode cX11_year 145 = .ok (.iload 4, 2) := by decide +kernel
theorem dX11_year_147 : decode cX11_year 147 = .ok (.aload_n 0, 1) := by decide +kernel
theorem dX11_year_148 : decode cX11_year 148 = .ok (.getfield 87, 3) := by decide +kernel
theorem dX11_year_151 : decode cX11_year 151 = .ok (.iload 5, 2) := by decide +kernel
theorem dX11_year_153 : decode cX11_year 153 = .ok (.baload, 1) := by decide +kernel
theorem dX11_year_154 : decode cX11_year 154 = .ok (.ifCond .eq 7, 3) := by decide +kernel
theorem dX11_year_157 : decode cX11_year 157 = .ok (.iconst 1, 1) := by decide +kernel
theorem dX11_year_158 : decode cX11_year 158 = .ok (.goto 4, 3) := by decide +kernel
theorem dX11_year_161 : decode cX11_year 161 = .ok (.iconst 0, 1) := by decide +kernel
theorem dX11_year_162 : decode cX11_year 162 = .ok (.iadd, 1) := by decide +kernel
theorem dX11_year_163 : decode cX11_year 163 = .ok (.istore 4, 2) := by decide +kernel
theorem dX11_year_165 : decode cX11_year 165 = .ok (.iinc 5 1, 3) := by decide +kernel
theorem dX11_year_168 : decode cX11_year 168 = .ok (.goto (-30), 3) := by decide +kernel
theorem dX11_year_171 : decode cX11_year 171 = .ok (.iload 4, 2) := by decide +kernel
theorem dX11_year_173 : decode cX11_year 173 = .ok (.ireturn, 1) := by decide +kernel
theorem dX11_span_0 : decode cX11_span 0 = .ok (.aload_n 0, 1) := by decide +kernel
theorem dX11_span_1 : decode cX11_span 1 = .ok (.iconst 0, 1) := by decide +kernel
theorem dX11_span_2 : decode cX11_span 2 = .ok (.putfield 3, 3) := by decide +kernel
theorem dX11_span_5 : decode cX11_span 5 = .ok (.aload_n 0, 1) := by decide +kernel
theorem dX11_span_6 : decode cX11_span 6 = .ok (.iload_n 2, 1) := by decide +kernel
theorem dX11_span_7 : decode cX11_span 7 = .ok (.iconst 1, 1) := by decide +kernel
theorem dX11_span_8 : decode cX11_span 8 = .ok (.bipush 20, 2) := by decide +kernel
theorem dX11_span_10 : decode cX11_span 10 = .ok (.invokestatic 330, 3) := by decide +kernel
theorem dX11_span_13 : decode cX11_span 13 = .ok (.ifCond .eq 27, 3) := by decide +kernel
theorem dX11_span_16 : decode cX11_span 16 = .ok (.iload_n 3, 1) := by decide +kernel
theorem dX11_span_17 : decode cX11_span 17 = .ok (.iconst 1, 1) := by decide +kernel
theorem dX11_span_18 : decode cX11_span 18 = .ok (.bipush 96, 2) := by decide +kernel
theorem dX11_span_20 : decode cX11_span 20 = .ok (.invokestatic 330, 3) := by decide +kernel
theorem dX11_span_23 : decode cX11_span 23 = .ok (.ifCond .eq 17, 3) := by decide +kernel
theorem dX11_span_26 : decode cX11_span 26 = .ok (.iload 4, 2) := by decide +kernel
theorem dX11_span_28 : decode cX11_span 28 = .ok (.iconst 0, 1) := by decide +kernel
theorem dX11_span_29 : decode cX11_span 29 = .ok (.iconst 2, 1) := by decide +kernel
theorem dX11_span_30 : decode cX11_span 30 = .ok (.invokestatic 330, 3) := by decide +kernel
theorem dX11_span_33 : decode cX11_span 33 = .ok (.ifCond .eq 7, 3) := by decide +kernel
theorem dX11_span_36 : decode cX11_span 36 = .ok (.iconst 1, 1) := by decide +kernel
theorem dX11_span_37 : decode cX11_span 37 = .ok (.goto 4, 3) := by decide +kernel
theorem dX11_span_40 : decode cX11_span 40 = .ok (.iconst 0, 1) := by decide +kernel
theorem dX11_span_41 : decode cX11_span 41 = .ok (.iconst 1, 1) := by decide +kernel
theorem dX11_span_42 : decode cX11_span 42 = .ok (.iconst 1, 1) := by decide +kernel
theorem dX11_span_43 : decode cX11_span 43 = .ok (.invokevirtual 185, 3) := by decide +kernel
theorem dX11_span_46 : decode cX11_span 46 = .ok (.ifCond .ne 5, 3) := by decide +kernel
theorem dX11_span_49 : decode cX11_span 49 = .ok (.iconst 0, 1) := by decide +kernel
theorem dX11_span_50 : decode cX11_span 50 = .ok (.ireturn, 1) := by decide +kernel
theorem dX11_span_51 : decode cX11_span 51 = .ok (.iconst (-1), 1) := by decide +kernel
theorem dX11_span_52 : decode cX11_span 52 = .ok (.istore 5, 2) := by decide +kernel
theorem dX11_span_54 : decode cX11_span 54 = .ok (.iconst 0, 1) := by decide +kernel
theorem dX11_span_55 : decode cX11_span 55 = .ok (.istore 6, 2) := by decide +kernel
theorem dX11_span_57 : decode cX11_span 57 = .ok (.iconst 0, 1) := by decide +kernel
theorem dX11_span_58 : decode cX11_span 58 = .ok (.istore 7, 2) := by decide +kernel
theorem dX11_span_60 : decode cX11_span 60 = .ok (.iconst 0, 1) := by decide +kernel
theorem dX11_span_61 : decode cX11_span 61 = .ok (.istore 8, 2) := by decide +kernel
theorem dX11_span_63 : decode cX11_span 63 = .ok (.iload 8, 2) := by decide +kernel
theorem dX11_span_65 : decode cX11_span 65 = .ok (.iload_n 2, 1) := by decide +kernel
theorem dX11_span_66 : decode cX11_span 66 = .ok (.if_icmp .ge 89, 3) := by decide +kernel
theorem dX11_span_69 : decode cX11_span 69 = .ok (.aload_n 0, 1) := by decide +kernel
theorem dX11_span_70 : decode cX11_span 70 = .ok (.iload_n 1, 1) := by decide +kernel
theorem dX11_span_71 : decode cX11_span 71 = .ok (.iload 8, 2) := by decide +kernel
theorem dX11_span_73 : decode cX11_span 73 = .ok (.iadd, 1) := by decide +kernel
theorem dX11_span_74 : decode cX11_span 74 = .ok (.iload_n 3, 1) := by decide +kernel
theorem dX11_span_75 : decode cX11_span 75 = .ok (.invokevirtual 402, 3) := by decide +kernel
theorem dX11_span_78 : decode cX11_span 78 = .ok (.iload 5, 2) := by decide +kernel
theorem dX11_span_80 : decode cX11_span 80 = .ok (.iconst (-1), 1) := by decide +kernel
theorem dX11_span_81 : decode cX11_span 81 = .ok (.if_icmp .eq 12, 3) := by decide +kernel
theorem dX11_span_84 : decode cX11_span 84 = .ok (.aload_n 0, 1) := by decide +kernel
theorem dX11_span_85 : decode cX11_span 85 = .ok (.getfield 396, 3) := by decide +kernel
theorem dX11_span_88 : decode cX11_span 88 = .ok (.iload 5, 2) := by decide +kernel
theorem dX11_span_90 : decode cX11_span 90 = .ok (.if_icmp .ge 10, 3) := by decide +kernel
theorem dX11_span_93 : decode cX11_span 93 = .ok (.aload_n 0, 1) := by decide +kernel
theorem dX11_span_94 : decode cX11_span 94 = .ok (.getfield 396, 3) := by decide +kernel
theorem dX11_span_97 : decode cX11_span 97 = .ok (.goto 5, 3) := by decide +kernel
theorem dX11_span_100 : decode cX11_span 100 = .ok (.iload 5, 2) := by decide +kernel
theorem dX11_span_102 : decode cX11_span 102 = .ok (.istore 5, 2) := by decide +kernel
theorem dX11_span_104 : decode cX11_span 104 = .ok (.aload_n 0, 1) := by decide +kernel
theorem dX11_span_105 : decode cX11_span 105 = .ok (.getfield 396, 3) := by decide +kernel
theorem dX11_span_108 : decode cX11_span 108 = .ok (.iload 6, 2) := by decide +kernel
theorem dX11_span_110 : decode cX11_span 110 = .ok (.if_icmp .le 10, 3) := by decide +kernel
theorem dX11_span_113 : decode cX11_span 113 = .ok (.aload_n 0, 1) := by decide +kernel
theorem dX11_span_114 : decode cX11_span 114 = .ok (.getfield 396, 3) := by decide +kernel
theorem dX11_span_117 : decode cX11_span 117 = .ok (.goto 5, 3) := by decide +kernel
theorem dX11_span_120 : decode cX11_span 120 = .ok (.iload 6, 2) := by decide +kernel
theorem dX11_span_122 : decode cX11_span 122 = .ok (.istore 6, 2) := by decide +kernel
theorem dX11_span_124 : decode cX11_span 124 = .ok (.iload 7, 2) := by decide +kernel
theorem dX11_span_126 : decode cX11_span 126 = .ok (.aload_n 0, 1) := by decide +kernel
theorem dX11_span_127 : decode cX11_span 127 = .ok (.getfield 396, 3) := by decide +kernel
theorem dX11_span_130 : decode cX11_span 130 = .ok (.iload_n 3, 1) := by decide +kernel
theorem dX11_span_131 : decode cX11_span 131 = .ok (.if_icmp .eq 10, 3) := by decide +kernel
theorem dX11_span_134 : decode cX11_span 134 = .ok (.aload_n 0, 1) := by decide +kernel
theorem dX11_span_135 : decode cX11_span 135 = .ok (.getfield 152, 3) := by decide +kernel
theorem dX11_span_138 : decode cX11_span 138 = .ok (.ifCond .ne 7, 3) := by decide +kernel
theorem dX11_span_141 : decode cX11_span 141 = .ok (.iconst 1, 1) := by decide +kernel
theorem dX11_span_142 : decode cX11_span 142 = .ok (.goto 4, 3) := by decide +kernel
theorem dX11_span_145 : decode cX11_span 145 = .ok (.iconst 0, 1) := by decide +kernel
theorem dX11_span_146 : decode cX11_span 146 = .ok (.iadd, 1) := by decide +kernel
theorem dX11_span_147 : decode cX11_span 147 = .ok (.istore 7, 2) := by decide +kernel
theorem dX11_span_149 : decode cX11_span 149 = .ok (.iinc 8 1, 3) := by decide +kernel
theorem dX11_span_152 : decode cX11_span 152 = .ok (.goto (-89), 3) := by decide +kernel
theorem dX11_span_155 : decode cX11_span 155 = .ok (.iload 4, 2) := by decide +kernel
theorem dX11_span_157 : decode cX11_span 157 = .ok (.ifCond .ne 8, 3) := by decide +kernel
theorem dX11_span_160 : decode cX11_span 160 = .ok (.iload 5, 2) := by decide +kernel
theorem dX11_span_162 : decode cX11_span 162 = .ok (.goto 16, 3) := by decide +kernel
theorem dX11_span_165 : decode cX11_span 165 = .ok (.iload 4, 2) := by decide +kernel
theorem dX11_span_167 : decode cX11_span 167 = .ok (.iconst 1, 1) := by decide +kernel
theorem dX11_span_168 : decode cX11_span 168 = .ok (.if_icmp .ne 8, 3) := by decide +kernel
theorem dX11_span_171 : decode cX11_span 171 = .ok (.iload 6, 2) := by decide +kernel
theorem dX11_span_173 : decode cX11_span 173 = .ok (.goto 5, 3) := by decide +kernel
theorem dX11_span_176 : decode cX11_span 176 = .ok (.iload 7, 2) := by decide +kernel
theorem dX11_span_178 : decode cX11_span 178 = .ok (.ireturn, 1) := by decide +kernel
theorem dX11_keepsRow_0 : decode cX11_keepsRow 0 = .ok (.iconst 0, 1) := by decide +kernel
theorem dX11_keepsRow_1 : decode cX11_keepsRow 1 = .ok (.istore 5, 2) := by decide +kernel
theorem dX11_keepsRow_3 : decode cX11_keepsRow 3 = .ok (.iload 5, 2) := by decide +kernel
theorem dX11_keepsRow_5 : decode cX11_keepsRow 5 = .ok (.iload_n 3, 1) := by decide +kernel
theorem dX11_keepsRow_6 : decode cX11_keepsRow 6 = .ok (.if_icmp .ge 43, 3) := by decide +kernel
theorem dX11_keepsRow_9 : decode cX11_keepsRow 9 = .ok (.iload 4, 2) := by decide +kernel
theorem dX11_keepsRow_11 : decode cX11_keepsRow 11 = .ok (.ifCond .eq 19, 3) := by decide +kernel
theorem dX11_keepsRow_14 : decode cX11_keepsRow 14 = .ok (.aload_n 0, 1) := by decide +kernel
theorem dX11_keepsRow_15 : decode cX11_keepsRow 15 = .ok (.getfield 91, 3) := by decide +kernel
theorem dX11_keepsRow_18 : decode cX11_keepsRow 18 = .ok (.iload_n 1, 1) := by decide +kernel
theorem dX11_keepsRow_19 : decode cX11_keepsRow 19 = .ok (.iload 5, 2) := by decide +kernel
theorem dX11_keepsRow_21 : decode cX11_keepsRow 21 = .ok (.iadd, 1) := by decide +kernel
theorem dX11_keepsRow_22 : decode cX11_keepsRow 22 = .ok (.aload_n 2, 1) := by decide +kernel
theorem dX11_keepsRow_23 : decode cX11_keepsRow 23 = .ok (.iload 5, 2) := by decide +kernel
theorem dX11_keepsRow_25 : decode cX11_keepsRow 25 = .ok (.iaload, 1) := by decide +kernel
theorem dX11_keepsRow_26 : decode cX11_keepsRow 26 = .ok (.iastore, 1) := by decide +kernel
theorem dX11_keepsRow_27 : decode cX11_keepsRow 27 = .ok (.goto 16, 3) := by decide +kernel
theorem dX11_keepsRow_30 : decode cX11_keepsRow 30 = .ok (.aload_n 2, 1) := by decide +kernel
theorem dX11_keepsRow_31 : decode cX11_keepsRow 31 = .ok (.iload 5, 2) := by decide +kernel
theorem dX11_keepsRow_33 : decode cX11_keepsRow 33 = .ok (.aload_n 0, 1) := by decide +kernel
theorem dX11_keepsRow_34 : decode cX11_keepsRow 34 = .ok (.getfield 91, 3) := by decide +kernel
theorem dX11_keepsRow_37 : decode cX11_keepsRow 37 = .ok (.iload_n 1, 1) := by decide +kernel
theorem dX11_keepsRow_38 : decode cX11_keepsRow 38 = .ok (.iload 5, 2) := by decide +kernel
theorem dX11_keepsRow_40 : decode cX11_keepsRow 40 = .ok (.iadd, 1) := by decide +kernel
theorem dX11_keepsRow_41 : decode cX11_keepsRow 41 = .ok (.iaload, 1) := by decide +kernel
theorem dX11_keepsRow_42 : decode cX11_keepsRow 42 = .ok (.iastore, 1) := by decide +kernel
theorem dX11_keepsRow_43 : decode cX11_keepsRow 43 = .ok (.iinc 5 1, 3) := by decide +kernel
theorem dX11_keepsRow_46 : decode cX11_keepsRow 46 = .ok (.goto (-43), 3) := by decide +kernel
theorem dX11_keepsRow_49 : decode cX11_keepsRow 49 = .ok (.iload_n 1, 1) := by decide +kernel
theorem dX11_keepsRow_50 : decode cX11_keepsRow 50 = .ok (.iload_n 3, 1) := by decide +kernel
theorem dX11_keepsRow_51 : decode cX11_keepsRow 51 = .ok (.iadd, 1) := by decide +kernel
theorem dX11_keepsRow_52 : decode cX11_keepsRow 52 = .ok (.ireturn, 1) := by decide +kernel
theorem dX11_keepsAll_0 : decode cX11_keepsAll 0 = .ok (.aload_n 0, 1) := by decide +kernel
theorem dX11_keepsAll_1 : decode cX11_keepsAll 1 = .ok (.sipush 3231, 3) := by decide +kernel
theorem dX11_keepsAll_4 : decode cX11_keepsAll 4 = .ok (.iload_n 1, 1) := by decide +kernel
theorem dX11_keepsAll_5 : decode cX11_keepsAll 5 = .ok (.imul, 1) := by decide +kernel
theorem dX11_keepsAll_6 : decode cX11_keepsAll 6 = .ok (.aload_n 0, 1) := by decide +kernel
theorem dX11_keepsAll_7 : decode cX11_keepsAll 7 = .ok (.getfield 56, 3) := by decide +kernel
theorem dX11_keepsAll_10 : decode cX11_keepsAll 10 = .ok (.sipush 190, 3) := by decide +kernel
theorem dX11_keepsAll_13 : decode cX11_keepsAll 13 = .ok (.iload_n 2, 1) := by decide +kernel
theorem dX11_keepsAll_14 : decode cX11_keepsAll 14 = .ok (.invokevirtual 405, 3) := by decide +kernel
theorem dX11_keepsAll_17 : decode cX11_keepsAll 17 = .ok (.istore_n 3, 1) := by decide +kernel
theorem dX11_keepsAll_18 : decode cX11_keepsAll 18 = .ok (.aload_n 0, 1) := by decide +kernel
theorem dX11_keepsAll_19 : decode cX11_keepsAll 19 = .ok (.iload_n 3, 1) := by decide +kernel
theorem dX11_keepsAll_20 : decode cX11_keepsAll 20 = .ok (.aload_n 0, 1) := by decide +kernel
theorem dX11_keepsAll_21 : decode cX11_keepsAll 21 = .ok (.getfield 62, 3) := by decide +kernel
theorem dX11_keepsAll_24 : decode cX11_keepsAll 24 = .ok (.sipush 3040, 3) := by decide +kernel
theorem dX11_keepsAll_27 : decode cX11_keepsAll 27 = .ok (.iload_n 2, 1) := by decide +kernel
theorem dX11_keepsAll_28 : decode cX11_keepsAll 28 = .ok (.invokevirtual 405, 3) := by decide +kernel
theorem dX11_keepsAll_31 : decode cX11_keepsAll 31 = .ok (.istore_n 3, 1) := by decide +kernel
theorem dX11_keepsAll_32 : decode cX11_keepsAll 32 = .ok (.iload_n 2, 1) := by decide +kernel
theorem dX11_keepsAll_33 : decode cX11_keepsAll 33 = .ok (.ifCond .eq 16, 3) := by decide +kernel
theorem dX11_keepsAll_36 : decode cX11_keepsAll 36 = .ok (.aload_n 0, 1) := by decide +kernel
theorem dX11_keepsAll_37 : decode cX11_keepsAll 37 = .ok (.getfield 91, 3) := by decide +kernel
theorem dX11_keepsAll_40 : decode cX11_keepsAll 40 = .ok (.iload_n 3, 1) := by decide +kernel
theorem dX11_keepsAll_41 : decode cX11_keepsAll 41 = .ok (.aload_n 0, 1) := by decide +kernel
theorem dX11_keepsAll_42 : decode cX11_keepsAll 42 = .ok (.getfield 164, 3) := by decide +kernel
theorem dX11_keepsAll_45 : decode cX11_keepsAll 45 = .ok (.iastore, 1) := by decide +kernel
theorem dX11_keepsAll_46 : decode cX11_keepsAll 46 = .ok (.goto 13, 3) := by decide +kernel
theorem dX11_keepsAll_49 : decode cX11_keepsAll 49 = .ok (.aload_n 0, 1) := by decide +kernel
theorem dX11_keepsAll_50 : decode cX11_keepsAll 50 = .ok (.aload_n 0, 1) := by decide +kernel
theorem dX11_keepsAll_51 : decode cX11_keepsAll 51 = .ok (.getfield 91, 3) := by decide +kernel
theorem dX11_keepsAll_54 : decode cX11_keepsAll 54 = .ok (.iload_n 3, 1) := by decide +kernel
theorem dX11_keepsAll_55 : decode cX11_keepsAll 55 = .ok (.iaload, 1) := by decide +kernel
theorem dX11_keepsAll_56 : decode cX11_keepsAll 56 = .ok (.putfield 164, 3) := by decide +kernel
theorem dX11_keepsAll_59 : decode cX11_keepsAll 59 = .ok (.return_, 1) := by decide +kernel
theorem dX11_image_0 : decode cX11_image 0 = .ok (.aload_n 0, 1) := by decide +kernel
theorem dX11_image_1 : decode cX11_image 1 = .ok (.iconst 0, 1) := by decide +kernel
theorem dX11_image_2 : decode cX11_image 2 = .ok (.putfield 3, 3) := by decide +kernel
theorem dX11_image_5 : decode cX11_image 5 = .ok (.aload_n 0, 1) := by decide +kernel
theorem dX11_image_6 : decode cX11_image 6 = .ok (.getfield 167, 3) := by decide +kernel
theorem dX11_image_9 : decode cX11_image 9 = .ok (.iconst 3, 1) := by decide +kernel
theorem dX11_image_10 : decode cX11_image 10 = .ok (.if_icmp .ne 5, 3) := by decide +kernel
theorem dX11_image_13 : decode cX11_image 13 = .ok (.iconst (-1), 1) := by decide +kernel
theorem dX11_image_14 : decode cX11_image 14 = .ok (.ireturn, 1) := by decide +kernel
theorem dX11_image_15 : decode cX11_image 15 = .ok (.aload_n 0, 1) := by decide +kernel
theorem dX11_image_16 : decode cX11_image 16 = .ok (.aload_n 0, 1) := by decide +kernel
theorem dX11_image_17 : decode cX11_image 17 = .ok (.getfield 167, 3) := by decide +kernel
theorem dX11_image_20 : decode cX11_image 20 = .ok (.iconst 1, 1) := by decide +kernel
theorem dX11_image_21 : decode cX11_image 21 = .ok (.invokevirtual 409, 3) := by decide +kernel
theorem dX11_image_24 : decode cX11_image 24 = .ok (.aload_n 0, 1) := by decide +kernel
theorem dX11_image_25 : decode cX11_image 25 = .ok (.dup, 1) := by decide +kernel
theorem dX11_image_26 : decode cX11_image 26 = .ok (.getfield 167, 3) := by decide +kernel
theorem dX11_image_29 : decode cX11_image 29 = .ok (.iconst 1, 1) := by decide +kernel
theorem dX11_image_30 : decode cX11_image 30 = .ok (.iadd, 1) := by decide +kernel
theorem dX11_image_31 : decode cX11_image 31 = .ok (.putfield 167, 3) := by decide +kernel
theorem dX11_image_34 : decode cX11_image 34 = .ok (.aload_n 0, 1) := by decide +kernel
theorem dX11_image_35 : decode cX11_image 35 = .ok (.getfield 167, 3) := by decide +kernel
theorem dX11_image_38 : decode cX11_image 38 = .ok (.ireturn, 1) := by decide +kernel
theorem dX11_restore_0 : decode cX11_restore 0 = .ok (.aload_n 0, 1) := by decide +kernel
theorem dX11_restore_1 : decode cX11_restore 1 = .ok (.iconst 0, 1) := by decide +kernel
theorem dX11_restore_2 : decode cX11_restore 2 = .ok (.putfield 3, 3) := by decide +kernel
theorem dX11_restore_5 : decode cX11_restore 5 = .ok (.aload_n 0, 1) := by decide +kernel
theorem dX11_restore_6 : decode cX11_restore 6 = .ok (.getfield 167, 3) := by decide +kernel
theorem dX11_restore_9 : decode cX11_restore 9 = .ok (.ifCond .ne 5, 3) := by decide +kernel
theorem dX11_restore_12 : decode cX11_restore 12 = .ok (.iconst (-1), 1) := by decide +kernel
theorem dX11_restore_13 : decode cX11_restore 13 = .ok (.ireturn, 1) := by decide +kernel
theorem dX11_restore_14 : decode cX11_restore 14 = .ok (.aload_n 0, 1) := by decide +kernel
theorem dX11_restore_15 : decode cX11_restore 15 = .ok (.dup, 1) := by decide +kernel
theorem dX11_restore_16 : decode cX11_restore 16 = .ok (.getfield 167, 3) := by decide +kernel
theorem dX11_restore_19 : decode cX11_restore 19 = .ok (.iconst 1, 1) := by decide +kernel
theorem dX11_restore_20 : decode cX11_restore 20 = .ok (.isub, 1) := by decide +kernel
theorem dX11_restore_21 : decode cX11_restore 21 = .ok (.putfield 167, 3) := by decide +kernel
theorem dX11_restore_24 : decode cX11_restore 24 = .ok (.aload_n 0, 1) := by decide +kernel
theorem dX11_restore_25 : decode cX11_restore 25 = .ok (.aload_n 0, 1) := by decide +kernel
theorem dX11_restore_26 : decode cX11_restore 26 = .ok (.getfield 167, 3) := by decide +kernel
theorem dX11_restore_29 : decode cX11_restore 29 = .ok (.iconst 0, 1) := by decide +kernel
theorem dX11_restore_30 : decode cX11_restore 30 = .ok (.invokevirtual 409, 3) := by decide +kernel
theorem dX11_restore_33 : decode cX11_restore 33 = .ok (.aload_n 0, 1) := by decide +kernel
theorem dX11_restore_34 : decode cX11_restore 34 = .ok (.iconst 0, 1) := by decide +kernel
theorem dX11_restore_35 : decode cX11_restore 35 = .ok (.putfield 170, 3) := by decide +kernel
theorem dX11_restore_38 : decode cX11_restore 38 = .ok (.aload_n 0, 1) := by decide +kernel
theorem dX11_restore_39 : decode cX11_restore 39 = .ok (.getfield 167, 3) := by decide +kernel
theorem dX11_restore_42 : decode cX11_restore 42 = .ok (.ireturn, 1) := by decide +kernel
theorem dX11_status_0 : decode cX11_status 0 = .ok (.aload_n 0, 1) := by decide +kernel
theorem dX11_status_1 : decode cX11_status 1 = .ok (.iconst 0, 1) := by decide +kernel
theorem dX11_status_2 : decode cX11_status 2 = .ok (.putfield 3, 3) := by decide +kernel
theorem dX11_status_5 : decode cX11_status 5 = .ok (.iload_n 1, 1) := by decide +kernel
theorem dX11_status_6 : decode cX11_status 6 = .ok (.iconst 0, 1) := by decide +kernel
theorem dX11_status_7 : decode cX11_status 7 = .ok (.iconst 1, 1) := by decide +kernel
theorem dX11_status_8 : decode cX11_status 8 = .ok (.invokestatic 330, 3) := by decide +kernel
theorem dX11_status_11 : decode cX11_status 11 = .ok (.ifCond .eq 12, 3) := by decide +kernel
theorem dX11_status_14 : decode cX11_status 14 = .ok (.aload_n 0, 1) := by decide +kernel
theorem dX11_status_15 : decode cX11_status 15 = .ok (.getfield 7, 3) := by decide +kernel
theorem dX11_status_18 : decode cX11_status 18 = .ok (.iload_n 1, 1) := by decide +kernel
theorem dX11_status_19 : decode cX11_status 19 = .ok (.iaload, 1) := by decide +kernel
theorem dX11_status_20 : decode cX11_status 20 = .ok (.goto 4, 3) := by decide +kernel
theorem dX11_status_23 : decode cX11_status 23 = .ok (.iconst (-1), 1) := by decide +kernel
theorem dX11_status_24 : decode cX11_status 24 = .ok (.ireturn, 1) := by decide +kernel
theorem dX11_count_0 : decode cX11_count 0 = .ok (.aload_n 0, 1) := by decide +kernel
theorem dX11_count_1 : decode cX11_count 1 = .ok (.iconst 0, 1) := by decide +kernel
theorem dX11_count_2 : decode cX11_count 2 = .ok (.putfield 3, 3) := by decide +kernel
theorem dX11_count_5 : decode cX11_count 5 = .ok (.iload_n 1, 1) := by decide +kernel
theorem dX11_count_6 : decode cX11_count 6 = .ok (.ifCond .ne 10, 3) := by decide +kernel
theorem dX11_count_9 : decode cX11_count 9 = .ok (.aload_n 0, 1) := by decide +kernel
theorem dX11_count_10 : decode cX11_count 10 = .ok (.getfield 167, 3) := by decide +kernel
theorem dX11_count_13 : decode cX11_count 13 = .ok (.goto 28, 3) := by decide +kernel
theorem dX11_count_16 : decode cX11_count 16 = .ok (.iload_n 1, 1) := by decide +kernel
theorem dX11_count_17 : decode cX11_count 17 = .ok (.iconst 1, 1) := by decide +kernel
theorem dX11_count_18 : decode cX11_count 18 = .ok (.if_icmp .ne 10, 3) := by decide +kernel
theorem dX11_count_21 : decode cX11_count 21 = .ok (.aload_n 0, 1) := by decide +kernel
theorem dX11_count_22 : decode cX11_count 22 = .ok (.getfield 100, 3) := by decide +kernel
theorem dX11_count_25 : decode cX11_count 25 = .ok (.goto 16, 3) := by decide +kernel
theorem dX11_count_28 : decode cX11_count 28 = .ok (.iload_n 1, 1) := by decide +kernel
theorem dX11_count_29 : decode cX11_count 29 = .ok (.iconst 2, 1) := by decide +kernel
theorem dX11_count_30 : decode cX11_count 30 = .ok (.if_icmp .ne 10, 3) := by decide +kernel
theorem dX11_count_33 : decode cX11_count 33 = .ok (.aload_n 0, 1) := by decide +kernel
theorem dX11_count_34 : decode cX11_count 34 = .ok (.getfield 164, 3) := by decide +kernel
theorem dX11_count_37 : decode cX11_count 37 = .ok (.goto 4, 3) := by decide +kernel
theorem dX11_count_40 : decode cX11_count 40 = .ok (.iconst (-1), 1) := by decide +kernel
theorem dX11_count_41 : decode cX11_count 41 = .ok (.ireturn, 1) := by decide +kernel
