theorem dX7_init_0 : decode cX7_init 0 = .ok (.aload_n 0, 1) := by decide +kernel
theorem dX7_init_1 : decode cX7_init 1 = .ok (.invokespecial 1, 3) := by decide +kernel
theorem dX7_init_4 : decode cX7_init 4 = .ok (.aload_n 0, 1) := by decide +kernel
theorem dX7_init_5 : decode cX7_init 5 = .ok (.bipush 12, 2) := by decide +kernel
theorem dX7_init_7 : decode cX7_init 7 = .ok (.newarray .int, 2) := by decide +kernel
theorem dX7_init_9 : decode cX7_init 9 = .ok (.putfield 9, 3) := by decide +kernel
theorem dX7_init_12 : decode cX7_init 12 = .ok (.aload_n 0, 1) := by decide +kernel
theorem dX7_init_13 : decode cX7_init 13 = .ok (.bipush 12, 2) := by decide +kernel
theorem dX7_init_15 : decode cX7_init 15 = .ok (.newarray .int, 2) := by decide +kernel
theorem dX7_init_17 : decode cX7_init 17 = .ok (.putfield 13, 3) := by decide +kernel
theorem dX7_init_20 : decode cX7_init 20 = .ok (.aload_n 0, 1) := by decide +kernel
theorem dX7_init_21 : decode cX7_init 21 = .ok (.bipush 12, 2) := by decide +kernel
theorem dX7_init_23 : decode cX7_init 23 = .ok (.newarray .int, 2) := by decide +kernel
theorem dX7_init_25 : decode cX7_init 25 = .ok (.putfield 16, 3) := by decide +kernel
theorem dX7_init_28 : decode cX7_init 28 = .ok (.aload_n 0, 1) := by decide +kernel
theorem dX7_init_29 : decode cX7_init 29 = .ok (.bipush 12, 2) := by decide +kernel
theorem dX7_init_31 : decode cX7_init 31 = .ok (.newarray .boolean, 2) := by decide +kernel
theorem dX7_init_33 : decode cX7_init 33 = .ok (.putfield 19, 3) := by decide +kernel
theorem dX7_init_36 : decode cX7_init 36 = .ok (.aload_n 0, 1) := by decide +kernel
theorem dX7_init_37 : decode cX7_init 37 = .ok (.bipush 13, 2) := by decide +kernel
theorem dX7_init_39 : decode cX7_init 39 = .ok (.newarray .int, 2) := by decide +kernel
theorem dX7_init_41 : decode cX7_init 41 = .ok (.putfield 23, 3) := by decide +kernel
theorem dX7_init_44 : decode cX7_init 44 = .ok (.aload_n 0, 1) := by decide +kernel
theorem dX7_init_45 : decode cX7_init 45 = .ok (.sipush 1872, 3) := by decide +kernel
theorem dX7_init_48 : decode cX7_init 48 = .ok (.newarray .byte, 2) := by decide +kernel
theorem dX7_init_50 : decode cX7_init 50 = .ok (.putfield 26, 3) := by decide +kernel
theorem dX7_init_53 : decode cX7_init 53 = .ok (.aload_n 0, 1) := by decide +kernel
theorem dX7_init_54 : decode cX7_init 54 = .ok (.sipush 156, 3) := by decide +kernel
theorem dX7_init_57 : decode cX7_init 57 = .ok (.newarray .int, 2) := by decide +kernel
theorem dX7_init_59 : decode cX7_init 59 = .ok (.putfield 30, 3) := by decide +kernel
theorem dX7_init_62 : decode cX7_init 62 = .ok (.aload_n 0, 1) := by decide +kernel
theorem dX7_init_63 : decode cX7_init 63 = .ok (.sipush 156, 3) := by decide +kernel
theorem dX7_init_66 : decode cX7_init 66 = .ok (.newarray .boolean, 2) := by decide +kernel
theorem dX7_init_68 : decode cX7_init 68 = .ok (.putfield 33, 3) := by decide +kernel
theorem dX7_init_71 : decode cX7_init 71 = .ok (.aload_n 0, 1) := by decide +kernel
theorem dX7_init_72 : decode cX7_init 72 = .ok (.sipush 156, 3) := by decide +kernel
theorem dX7_init_75 : decode cX7_init 75 = .ok (.newarray .boolean, 2) := by decide +kernel
theorem dX7_init_77 : decode cX7_init 77 = .ok (.putfield 36, 3) := by decide +kernel
theorem dX7_init_80 : decode cX7_init 80 = .ok (.aload_n 0, 1) := by decide +kernel
theorem dX7_init_81 : decode cX7_init 81 = .ok (.iconst 4, 1) := by decide +kernel
theorem dX7_init_82 : decode cX7_init 82 = .ok (.newarray .int, 2) := by decide +kernel
theorem dX7_init_84 : decode cX7_init 84 = .ok (.dup, 1) := by decide +kernel
theorem dX7_init_85 : decode cX7_init 85 = .ok (.iconst 0, 1) := by decide +kernel
theorem dX7_init_86 : decode cX7_init 86 = .ok (.iconst 5, 1) := by decide +kernel
theorem dX7_init_87 : decode cX7_init 87 = .ok (.iastore, 1) := by decide +kernel
theorem dX7_init_88 : decode cX7_init 88 = .ok (.dup, 1) := by decide +kernel
theorem dX7_init_89 : decode cX7_init 89 = .ok (.iconst 1, 1) := by decide +kernel
theorem dX7_init_90 : decode cX7_init 90 = .ok (.iconst 5, 1) := by decide +kernel
theorem dX7_init_91 : decode cX7_init 91 = .ok (.iastore, 1) := by decide +kernel
theorem dX7_init_92 : decode cX7_init 92 = .ok (.dup, 1) := by decide +kernel
theorem dX7_init_93 : decode cX7_init 93 = .ok (.iconst 2, 1) := by decide +kernel
theorem dX7_init_94 : decode cX7_init 94 = .ok (.iconst 5, 1) := by decide +kernel
theorem dX7_init_95 : decode cX7_init 95 = .ok (.iastore, 1) := by decide +kernel
theorem dX7_init_96 : decode cX7_init 96 = .ok (.dup, 1) := by decide +kernel
theorem dX7_init_97 : decode cX7_init 97 = .ok (.iconst 3, 1) := by decide +kernel
theorem dX7_init_98 : decode cX7_init 98 = .ok (.iconst 5, 1) := by decide +kernel
theorem dX7_init_99 : decode cX7_init 99 = .ok (.iastore, 1) := by decide +kernel
theorem dX7_init_100 : decode cX7_init 100 = .ok (.putfield 39, 3) := by decide +kernel
theorem dX7_init_103 : decode cX7_init 103 = .ok (.aload_n 0, 1) := by decide +kernel
theorem dX7_init_104 : decode cX7_init 104 = .ok (.bipush 80, 2) := by decide +kernel
theorem dX7_init_106 : decode cX7_init 106 = .ok (.newarray .int, 2) := by decide +kernel
theorem dX7_init_108 : decode cX7_init 108 = .ok (.putfield 42, 3) := by decide +kernel
theorem dX7_init_111 : decode cX7_init 111 = .ok (.aload_n 0, 1) := by decide +kernel
theorem dX7_init_112 : decode cX7_init 112 = .ok (.bipush 80, 2) := by decide +kernel
theorem dX7_init_114 : decode cX7_init 114 = .ok (.newarray .int, 2) := by decide +kernel
theorem dX7_init_116 : decode cX7_init 116 = .ok (.putfield 45, 3) := by decide +kernel
theorem dX7_init_119 : decode cX7_init 119 = .ok (.aload_n 0, 1) := by decide +kernel
theorem dX7_init_120 : decode cX7_init 120 = .ok (.bipush 81, 2) := by decide +kernel
theorem dX7_init_122 : decode cX7_init 122 = .ok (.newarray .int, 2) := by decide +kernel
theorem dX7_init_124 : decode cX7_init 124 = .ok (.putfield 48, 3) := by decide +kernel
theorem dX7_init_127 : decode cX7_init 127 = .ok (.aload_n 0, 1) := by decide +kernel
theorem dX7_init_128 : decode cX7_init 128 = .ok (.bipush 81, 2) := by decide +kernel
theorem dX7_init_130 : decode cX7_init 130 = .ok (.newarray .int, 2) := by decide +kernel
theorem dX7_init_132 : decode cX7_init 132 = .ok (.putfield 51, 3) := by decide +kernel
theorem dX7_init_135 : decode cX7_init 135 = .ok (.aload_n 0, 1) := by decide +kernel
theorem dX7_init_136 : decode cX7_init 136 = .ok (.sipush 32400, 3) := by decide +kernel
theorem dX7_init_139 : decode cX7_init 139 = .ok (.newarray .byte, 2) := by decide +kernel
theorem dX7_init_141 : decode cX7_init 141 = .ok (.putfield 54, 3) := by decide +kernel
theorem dX7_init_144 : decode cX7_init 144 = .ok (.aload_n 0, 1) := by decide +kernel
theorem dX7_init_145 : decode cX7_init 145 = .ok (.sipush 4860, 3) := by decide +kernel
theorem dX7_init_148 : decode cX7_init 148 = .ok (.newarray .int, 2) := by decide +kernel
theorem dX7_init_150 : decode cX7_init 150 = .ok (.putfield 57, 3) := by decide +kernel
theorem dX7_init_153 : decode cX7_init 153 = .ok (.aload_n 0, 1) := by decide +kernel
theorem dX7_init_154 : decode cX7_init 154 = .ok (.sipush 4860, 3) := by decide +kernel
theorem dX7_init_157 : decode cX7_init 157 = .ok (.newarray .int, 2) := by decide +kernel
theorem dX7_init_159 : decode cX7_init 159 = .ok (.putfield 60, 3) := by decide +kernel
theorem dX7_init_162 : decode cX7_init 162 = .ok (.aload_n 0, 1) := by decide +kernel
theorem dX7_init_163 : decode cX7_init 163 = .ok (.sipush 4860, 3) := by decide +kernel
theorem dX7_init_166 : decode cX7_init 166 = .ok (.newarray .int, 2) := by decide +kernel
theorem dX7_init_168 : decode cX7_init 168 = .ok (.putfield 63, 3) := by decide +kernel
theorem dX7_init_171 : decode cX7_init 171 = .ok (.aload_n 0, 1) := by decide +kernel
theorem dX7_init_172 : decode cX7_init 172 = .ok (.sipush 480, 3) := by decide +kernel
theorem dX7_init_175 : decode cX7_init 175 = .ok (.newarray .int, 2) := by decide +kernel
theorem dX7_init_177 : decode cX7_init 177 = .ok (.putfield 66, 3) := by decide +kernel
theorem dX7_init_180 : decode cX7_init 180 = .ok (.aload_n 0, 1) := by decide +kernel
theorem dX7_init_181 : decode cX7_init 181 = .ok (.sipush 480, 3) := by decide +kernel
theorem dX7_init_184 : decode cX7_init 184 = .ok (.newarray .int, 2) := by decide +kernel
theorem dX7_init_186 : decode cX7_init 186 = .ok (.putfield 69, 3) := by decide +kernel
theorem dX7_init_189 : decode cX7_init 189 = .ok (.aload_n 0, 1) := by decide +kernel
theorem dX7_init_190 : decode cX7_init 190 = .ok (.sipush 480, 3) := by decide +kernel
theorem dX7_init_193 : decode cX7_init 193 = .ok (.newarray .int, 2) := by decide +kernel
theorem dX7_init_195 : decode cX7_init 195 = .ok (.putfield 72, 3) := by decide +kernel
theorem dX7_init_198 : decode cX7_init 198 = .ok (.aload_n 0, 1) := by decide +kernel
theorem dX7_init_199 : decode cX7_init 199 = .ok (.bipush 10, 2) := by decide +kernel
theorem dX7_init_201 : decode cX7_init 201 = .ok (.newarray .int, 2) := by decide +kernel
theorem dX7_init_203 : decode cX7_init 203 = .ok (.putfield 75, 3) := by decide +kernel
theorem dX7_init_206 : decode cX7_init 206 = .ok (.aload_n 0, 1) := by decide +kernel
theorem dX7_init_207 : decode cX7_init 207 = .ok (.sipush 400, 3) := by decide +kernel
theorem dX7_init_210 : decode cX7_init 210 = .ok (.newarray .byte, 2) := by decide +kernel
theorem dX7_init_212 : decode cX7_init 212 = .ok (.putfield 78, 3) := by decide +kernel
theorem dX7_init_215 : decode cX7_init 215 = .ok (.aload_n 0, 1) := by decide +kernel
theorem dX7_init_216 : decode cX7_init 216 = .ok (.iconst (-1), 1) := by decide +kernel
theorem dX7_init_217 : decode cX7_init 217 = .ok (.putfield 81, 3) := by decide +kernel
theorem dX7_init_220 : decode cX7_init 220 = .ok (.aload_n 0, 1) := by decide +kernel
theorem dX7_init_221 : decode cX7_init 221 = .ok (.iconst 5, 1) := by decide +kernel
theorem dX7_init_222 : decode cX7_init 222 = .ok (.newarray .int, 2) := by decide +kernel
theorem dX7_init_224 : decode cX7_init 224 = .ok (.putfield 85, 3) := by decide +kernel
theorem dX7_init_227 : decode cX7_init 227 = .ok (.aload_n 0, 1) := by decide +kernel
theorem dX7_init_228 : decode cX7_init 228 = .ok (.sipush 401, 3) := by decide +kernel
theorem dX7_init_231 : decode cX7_init 231 = .ok (.newarray .int, 2) := by decide +kernel
theorem dX7_init_233 : decode cX7_init 233 = .ok (.putfield 88, 3) := by decide +kernel
theorem dX7_init_236 : decode cX7_init 236 = .ok (.return_, 1) := by decide +kernel
theorem dX7_thrown_0 : decode cX7_thrown 0 = .ok (.aload_n 0, 1) := by decide +kernel
theorem dX7_thrown_1 : decode cX7_thrown 1 = .ok (.getfield 91, 3) := by decide +kernel
theorem dX7_thrown_4 : decode cX7_thrown 4 = .ok (.ireturn, 1) := by decide +kernel
theorem dX7_throwsIf_0 : decode cX7_throwsIf 0 = .ok (.iload_n 1, 1) := by decide +kernel
theorem dX7_throwsIf_1 : decode cX7_throwsIf 1 = .ok (.ifCond .eq 8, 3) := by decide +kernel
theorem dX7_throwsIf_4 : decode cX7_throwsIf 4 = .ok (.aload_n 0, 1) := by decide +kernel
theorem dX7_throwsIf_5 : decode cX7_throwsIf 5 = .ok (.iload_n 2, 1) := by decide +kernel
theorem dX7_throwsIf_6 : decode cX7_throwsIf 6 = .ok (.putfield 91, 3) := by decide +kernel
theorem dX7_throwsIf_9 : decode cX7_throwsIf 9 = .ok (.iload_n 1, 1) := by decide +kernel
theorem dX7_throwsIf_10 : decode cX7_throwsIf 10 = .ok (.ireturn, 1) := by decide +kernel
theorem dX7_in_0 : decode cX7_in 0 = .ok (.iload_n 0, 1) := by decide +kernel
theorem dX7_in_1 : decode cX7_in 1 = .ok (.iload_n 1, 1) := by decide +kernel
theorem dX7_in_2 : decode cX7_in 2 = .ok (.if_icmp .lt 12, 3) := by decide +kernel
theorem dX7_in_5 : decode cX7_in 5 = .ok (.iload_n 0, 1) := by decide +kernel
theorem dX7_in_6 : decode cX7_in 6 = .ok (.iload_n 2, 1) := by decide +kernel
theorem dX7_in_7 : decode cX7_in 7 = .ok (.if_icmp .gt 7, 3) := by decide +kernel
theorem dX7_in_10 : decode cX7_in 10 = .ok (.iconst 1, 1) := by decide +kernel
theorem dX7_in_11 : decode cX7_in 11 = .ok (.goto 4, 3) := by decide +kernel
theorem dX7_in_14 : decode cX7_in 14 = .ok (.iconst 0, 1) := by decide +kernel
theorem dX7_in_15 : decode cX7_in 15 = .ok (.ireturn, 1) := by decide +kernel
theorem dX7_noCause_0 : decode cX7_noCause 0 = .ok (.iload_n 1, 1) := by decide +kernel
theorem dX7_noCause_1 : decode cX7_noCause 1 = .ok (.iconst 0, 1) := by decide +kernel
theorem dX7_noCause_2 : decode cX7_noCause 2 = .ok (.aload_n 0, 1) := by decide +kernel
theorem dX7_noCause_3 : decode cX7_noCause 3 = .ok (.getfield 94, 3) := by decide +kernel
theorem dX7_noCause_6 : decode cX7_noCause 6 = .ok (.iconst 1, 1) := by decide +kernel
theorem dX7_noCause_7 : decode cX7_noCause 7 = .ok (.isub, 1) := by decide +kernel
theorem dX7_noCause_8 : decode cX7_noCause 8 = .ok (.invokestatic 97, 3) := by decide +kernel
theorem dX7_noCause_11 : decode cX7_noCause 11 = .ok (.ifCond .ne 7, 3) := by decide +kernel
theorem dX7_noCause_14 : decode cX7_noCause 14 = .ok (.iconst 1, 1) := by decide +kernel
theorem dX7_noCause_15 : decode cX7_noCause 15 = .ok (.goto 4, 3) := by decide +kernel
theorem dX7_noCause_18 : decode cX7_noCause 18 = .ok (.iconst 0, 1) := by decide +kernel
theorem dX7_noCause_19 : decode cX7_noCause 19 = .ok (.ireturn, 1) := by decide +kernel
theorem dX7_noLetter_0 : decode cX7_noLetter 0 = .ok (.iload_n 1, 1) := by decide +kernel
theorem dX7_noLetter_1 : decode cX7_noLetter 1 = .ok (.iconst 0, 1) := by decide +kernel
theorem dX7_noLetter_2 : decode cX7_noLetter 2 = .ok (.aload_n 0, 1) := by decide +kernel
theorem dX7_noLetter_3 : decode cX7_noLetter 3 = .ok (.getfield 101, 3) := by decide +kernel
theorem dX7_noLetter_6 : decode cX7_noLetter 6 = .ok (.iconst 1, 1) := by decide +kernel
theorem dX7_noLetter_7 : decode cX7_noLetter 7 = .ok (.isub, 1) := by decide +kernel
theorem dX7_noLetter_8 : decode cX7_noLetter 8 = .ok (.invokestatic 97, 3) := by decide +kernel
theorem dX7_noLetter_11 : decode cX7_noLetter 11 = .ok (.ifCond .ne 7, 3) := by decide +kernel
theorem dX7_noLetter_14 : decode cX7_noLetter 14 = .ok (.iconst 1, 1) := by decide +kernel
theorem dX7_noLetter_15 : decode cX7_noLetter 15 = .ok (.goto 4, 3) := by decide +kernel
theorem dX7_noLetter_18 : decode cX7_noLetter 18 = .ok (.iconst 0, 1) := by decide +kernel
theorem dX7_noLetter_19 : decode cX7_noLetter 19 = .ok (.ireturn, 1) := by decide +kernel
theorem dX7_noPoint_0 : decode cX7_noPoint 0 = .ok (.aload_n 0, 1) := by decide +kernel
theorem dX7_noPoint_1 : decode cX7_noPoint 1 = .ok (.iload_n 1, 1) := by decide +kernel
theorem dX7_noPoint_2 : decode cX7_noPoint 2 = .ok (.invokevirtual 104, 3) := by decide +kernel
theorem dX7_noPoint_5 : decode cX7_noPoint 5 = .ok (.ifCond .ne 19, 3) := by decide +kernel
theorem dX7_noPoint_8 : decode cX7_noPoint 8 = .ok (.iload_n 2, 1) := by decide +kernel
theorem dX7_noPoint_9 : decode cX7_noPoint 9 = .ok (.iconst 0, 1) := by decide +kernel
theorem dX7_noPoint_10 : decode cX7_noPoint 10 = .ok (.aload_n 0, 1) := by decide +kernel
theorem dX7_noPoint_11 : decode cX7_noPoint 11 = .ok (.getfield 48, 3) := by decide +kernel
theorem dX7_noPoint_14 : decode cX7_noPoint 14 = .ok (.iload_n 1, 1) := by decide +kernel
theorem dX7_noPoint_15 : decode cX7_noPoint 15 = .ok (.iaload, 1) := by decide +kernel
theorem dX7_noPoint_16 : decode cX7_noPoint 16 = .ok (.iconst 1, 1) := by decide +kernel
theorem dX7_noPoint_17 : decode cX7_noPoint 17 = .ok (.isub, 1) := by decide +kernel
theorem dX7_noPoint_18 : decode cX7_noPoint 18 = .ok (.invokestatic 97, 3) := by decide +kernel
theorem dX7_noPoint_21 : decode cX7_noPoint 21 = .ok (.ifCond .ne 7, 3) := by decide +kernel
theorem dX7_noPoint_24 : decode cX7_noPoint 24 = .ok (.iconst 1, 1) := by decide +kernel
theorem dX7_noPoint_25 : decode cX7_noPoint 25 = .ok (.goto 4, 3) := by decide +kernel
theorem dX7_noPoint_28 : decode cX7_noPoint 28 = .ok (.iconst 0, 1) := by decide +kernel
theorem dX7_noPoint_29 : decode cX7_noPoint 29 = .ok (.ireturn, 1) := by decide +kernel
theorem dX7_noDesk_0 : decode cX7_noDesk 0 = .ok (.iload_n 0, 1) := by decide +kernel
theorem dX7_noDesk_1 : decode cX7_noDesk 1 = .ok (.iconst 0, 1) := by decide +kernel
theorem dX7_noDesk_2 : decode cX7_noDesk 2 = .ok (.iconst 3, 1) := by decide +kernel
theorem dX7_noDesk_3 : decode cX7_noDesk 3 = .ok (.invokestatic 97, 3) := by decide +kernel
theorem dX7_noDesk_6 : decode cX7_noDesk 6 = .ok (.ifCond .ne 7, 3) := by decide +kernel
theorem dX7_noDesk_9 : decode cX7_noDesk 9 = .ok (.iconst 1, 1) := by decide +kernel
theorem dX7_noDesk_10 : decode cX7_noDesk 10 = .ok (.goto 4, 3) := by decide +kernel
theorem dX7_noDesk_13 : decode cX7_noDesk 13 = .ok (.iconst 0, 1) := by decide +kernel
theorem dX7_noDesk_14 : decode cX7_noDesk 14 = .ok (.ireturn, 1) := by decide +kernel
theorem dX7_feed_0 : decode cX7_feed 0 = .ok (.aload_n 0, 1) := by decide +kernel
theorem dX7_feed_1 : decode cX7_feed 1 = .ok (.iconst 0, 1) := by decide +kernel
theorem dX7_feed_2 : decode cX7_feed 2 = .ok (.putfield 91, 3) := by decide +kernel
theorem dX7_feed_5 : decode cX7_feed 5 = .ok (.aload_n 0, 1) := by decide +kernel
theorem dX7_feed_6 : decode cX7_feed 6 = .ok (.getfield 108, 3) := by decide +kernel
theorem dX7_feed_9 : decode cX7_feed 9 = .ok (.bipush 20, 2) := by decide +kernel
theorem dX7_feed_11 : decode cX7_feed 11 = .ok (.iadd, 1) := by decide +kernel
theorem dX7_feed_12 : decode cX7_feed 12 = .ok (.sipush 400, 3) := by decide +kernel
theorem dX7_feed_15 : decode cX7_feed 15 = .ok (.if_icmp .le 5, 3) := by decide +kernel
theorem dX7_feed_18 : decode cX7_feed 18 = .ok (.iconst (-1), 1) := by decide +kernel
theorem dX7_feed_19 : decode cX7_feed 19 = .ok (.ireturn, 1) := by decide +kernel
theorem dX7_feed_20 : decode cX7_feed 20 = .ok (.aload_n 0, 1) := by decide +kernel
theorem dX7_feed_21 : decode cX7_feed 21 = .ok (.getfield 85, 3) := by decide +kernel
theorem dX7_feed_24 : decode cX7_feed 24 = .ok (.iconst 0, 1) := by decide +kernel
theorem dX7_feed_25 : decode cX7_feed 25 = .ok (.iload_n 1, 1) := by decide +kernel
theorem dX7_feed_26 : decode cX7_feed 26 = .ok (.iastore, 1) := by decide +kernel
theorem dX7_feed_27 : decode cX7_feed 27 = .ok (.aload_n 0, 1) := by decide +kernel
theorem dX7_feed_28 : decode cX7_feed 28 = .ok (.getfield 85, 3) := by decide +kernel
theorem dX7_feed_31 : decode cX7_feed 31 = .ok (.iconst 1, 1) := by decide +kernel
theorem dX7_feed_32 : decode cX7_feed 32 = .ok (.iload_n 2, 1) := by decide +kernel
theorem dX7_feed_33 : decode cX7_feed 33 = .ok (.iastore, 1) := by decide +kernel
theorem dX7_feed_34 : decode cX7_feed 34 = .ok (.aload_n 0, 1) := by decide +kernel
theorem dX7_feed_35 : decode cX7_feed 35 = .ok (.getfield 85, 3) := by decide +kernel
theorem dX7_feed_38 : decode cX7_feed 38 = .ok (.iconst 2, 1) := by decide +kernel
theorem dX7_feed_39 : decode cX7_feed 39 = .ok (.iload_n 3, 1) := by decide +kernel
theorem dX7_feed_40 : decode cX7_feed 40 = .ok (.iastore, 1) := by decide +kernel
theorem dX7_feed_41 : decode cX7_feed 41 = .ok (.aload_n 0, 1) := by decide +kernel
theorem dX7_feed_42 : decode cX7_feed 42 = .ok (.getfield 85, 3) := by decide +kernel
theorem dX7_feed_45 : decode cX7_feed 45 = .ok (.iconst 3, 1) := by decide +kernel
theorem dX7_feed_46 : decode cX7_feed 46 = .ok (.iload 4, 2) := by decide +kernel
theorem dX7_feed_48 : decode cX7_feed 48 = .ok (.iastore, 1) := by decide +kernel
theorem dX7_feed_49 : decode cX7_feed 49 = .ok (.aload_n 0, 1) := by decide +kernel
theorem dX7_feed_50 : decode cX7_feed 50 = .ok (.getfield 85, 3) := by decide +kernel
theorem dX7_feed_53 : decode cX7_feed 53 = .ok (.iconst 4, 1) := by decide +kernel
theorem dX7_feed_54 : decode cX7_feed 54 = .ok (.iload 5, 2) := by decide +kernel
theorem dX7_feed_56 : decode cX7_feed 56 = .ok (.iastore, 1) := by decide +kernel
theorem dX7_feed_57 : decode cX7_feed 57 = .ok (.iconst 0, 1) := by decide +kernel
theorem dX7_feed_58 : decode cX7_feed 58 = .ok (.istore 6, 2) := by decide +kernel
theorem dX7_feed_60 : decode cX7_feed 60 = .ok (.iload 6, 2) := by decide +kernel
theorem dX7_feed_62 : decode cX7_feed 62 = .ok (.bipush 20, 2) := by decide +kernel
theorem dX7_feed_64 : decode cX7_feed 64 = .ok (.if_icmp .ge 42, 3) := by decide +kernel
theorem dX7_feed_67 : decode cX7_feed 67 = .ok (.aload_n 0, 1) := by decide +kernel
theorem dX7_feed_68 : decode cX7_feed 68 = .ok (.getfield 78, 3) := by decide +kernel
theorem dX7_feed_71 : decode cX7_feed 71 = .ok (.aload_n 0, 1) := by decide +kernel
theorem dX7_feed_72 : decode cX7_feed 72 = .ok (.getfield 108, 3) := by decide +kernel
theorem dX7_feed_75 : decode cX7_feed 75 = .ok (.iload 6, 2) := by decide +kernel
theorem dX7_feed_77 : decode cX7_feed 77 = .ok (.iadd, 1) := by decide +kernel
theorem dX7_feed_78 : decode cX7_feed 78 = .ok (.aload_n 0, 1) := by decide +kernel
theorem dX7_feed_79 : decode cX7_feed 79 = .ok (.getfield 85, 3) := by decide +kernel
theorem dX7_feed_82 : decode cX7_feed 82 = .ok (.iload 6, 2) := by decide +kernel
theorem dX7_feed_84 : decode cX7_feed 84 = .ok (.iconst 4, 1) := by decide +kernel
theorem dX7_feed_85 : decode cX7_feed 85 = .ok (.idiv, 1) := by decide +kernel
theorem dX7_feed_86 : decode cX7_feed 86 = .ok (.iaload, 1) := by decide +kernel
theorem dX7_feed_87 : decode cX7_feed 87 = .ok (.bipush 24, 2) := by decide +kernel
theorem dX7_feed_89 : decode cX7_feed 89 = .ok (.bipush 8, 2) := by decide +kernel
theorem dX7_feed_91 : decode cX7_feed 91 = .ok (.iload 6, 2) := by decide +kernel
theorem dX7_feed_93 : decode cX7_feed 93 = .ok (.iconst 4, 1) := by decide +kernel
theorem dX7_feed_94 : decode cX7_feed 94 = .ok (.irem, 1) := by decide +kernel
theorem dX7_feed_95 : decode cX7_feed 95 = .ok (.imul, 1) := by decide +kernel
theorem dX7_feed_96 : decode cX7_feed 96 = .ok (.isub, 1) := by decide +kernel
theorem dX7_feed_97 : decode cX7_feed 97 = .ok (.ishr, 1) := by decide +kernel
theorem dX7_feed_98 : decode cX7_feed 98 = .ok (.i2b, 1) := by decide +kernel
theorem dX7_feed_99 : decode cX7_feed 99 = .ok (.bastore, 1) := by decide +kernel
theorem dX7_feed_100 : decode cX7_feed 100 = .ok (.iinc 6 1, 3) := by decide +kernel
theorem dX7_feed_103 : decode cX7_feed 103 = .ok (.goto (-43), 3) := by decide +kernel
theorem dX7_feed_106 : decode cX7_feed 106 = .ok (.aload_n 0, 1) := by decide +kernel
theorem dX7_feed_107 : decode cX7_feed 107 = .ok (.dup, 1) := by decide +kernel
theorem dX7_feed_108 : decode cX7_feed 108 = .ok (.getfield 108, 3) := by decide +kernel
theorem dX7_feed_111 : decode cX7_feed 111 = .ok (.bipush 20, 2) := by decide +kernel
theorem dX7_feed_113 : decode cX7_feed 113 = .ok (.iadd, 1) := by decide +kernel
theorem dX7_feed_114 : decode cX7_feed 114 = .ok (.putfield 108, 3) := by decide +kernel
theorem dX7_feed_117 : decode cX7_feed 117 = .ok (.aload_n 0, 1) := by decide +kernel
theorem dX7_feed_118 : decode cX7_feed 118 = .ok (.getfield 108, 3) := by decide +kernel
theorem dX7_feed_121 : decode cX7_feed 121 = .ok (.ireturn, 1) := by decide +kernel
theorem dX7_end_0 : decode cX7_end 0 = .ok (.aload_n 0, 1) := by decide +kernel
theorem dX7_end_1 : decode cX7_end 1 = .ok (.iconst 0, 1) := by decide +kernel
theorem dX7_end_2 : decode cX7_end 2 = .ok (.putfield 91, 3) := by decide +kernel
theorem dX7_end_5 : decode cX7_end 5 = .ok (.iload_n 1, 1) := by decide +kernel
theorem dX7_end_6 : decode cX7_end 6 = .ok (.ifCond .lt 11, 3) := by decide +kernel
theorem dX7_end_9 : decode cX7_end 9 = .ok (.iload_n 1, 1) := by decide +kernel
theorem dX7_end_10 : decode cX7_end 10 = .ok (.aload_n 0, 1) := by decide +kernel
theorem dX7_end_11 : decode cX7_end 11 = .ok (.getfield 108, 3) := by decide +kernel
theorem dX7_end_14 : decode cX7_end 14 = .ok (.if_icmp .le 5, 3) := by decide +kernel
theorem dX7_end_17 : decode cX7_end 17 = .ok (.iconst 0, 1) := by decide +kernel
theorem dX7_end_18 : decode cX7_end 18 = .ok (.ireturn, 1) := by decide +kernel
theorem dX7_end_19 : decode cX7_end 19 = .ok (.aload_n 0, 1) := by decide +kernel
theorem dX7_end_20 : decode cX7_end 20 = .ok (.iload_n 1, 1) := by decide +kernel
theorem dX7_end_21 : decode cX7_end 21 = .ok (.putfield 108, 3) := by decide +kernel
theorem dX7_end_24 : decode cX7_end 24 = .ok (.iconst 1, 1) := by decide +kernel
theorem dX7_end_25 : decode cX7_end 25 = .ok (.ireturn, 1) := by decide +kernel
theorem dX7_uses_0 : decode cX7_uses 0 = .ok (.aload_n 0, 1) := by decide +kernel
theorem dX7_uses_1 : decode cX7_uses 1 = .ok (.iconst 0, 1) := by decide +kernel
theorem dX7_uses_2 : decode cX7_uses 2 = .ok (.putfield 91, 3) := by decide +kernel
theorem dX7_uses_5 : decode cX7_uses 5 = .ok (.aload_n 0, 1) := by decide +kernel
theorem dX7_uses_6 : decode cX7_uses 6 = .ok (.aload_n 0, 1) := by decide +kernel
theorem dX7_uses_7 : decode cX7_uses 7 = .ok (.getfield 108, 3) := by decide +kernel
theorem dX7_uses_10 : decode cX7_uses 10 = .ok (.putfield 111, 3) := by decide +kernel
theorem dX7_uses_13 : decode cX7_uses 13 = .ok (.aload_n 0, 1) := by decide +kernel
theorem dX7_uses_14 : decode cX7_uses 14 = .ok (.iconst 0, 1) := by decide +kernel
theorem dX7_uses_15 : decode cX7_uses 15 = .ok (.putfield 108, 3) := by decide +kernel
theorem dX7_uses_18 : decode cX7_uses 18 = .ok (.aload_n 0, 1) := by decide +kernel
theorem dX7_uses_19 : decode cX7_uses 19 = .ok (.iconst 0, 1) := by decide +kernel
theorem dX7_uses_20 : decode cX7_uses 20 = .ok (.putfield 114, 3) := by decide +kernel
theorem dX7_uses_23 : decode cX7_uses 23 = .ok (.return_, 1) := by decide +kernel
theorem dX7_isAt_0 : decode cX7_isAt 0 = .ok (.aload_n 0, 1) := by decide +kernel
theorem dX7_isAt_1 : decode cX7_isAt 1 = .ok (.getfield 114, 3) := by decide +kernel
theorem dX7_isAt_4 : decode cX7_isAt 4 = .ok (.aload_n 0, 1) := by decide +kernel
theorem dX7_isAt_5 : decode cX7_isAt 5 = .ok (.getfield 111, 3) := by decide +kernel
theorem dX7_isAt_8 : decode cX7_isAt 8 = .ok (.if_icmp .ge 33, 3) := by decide +kernel
theorem dX7_isAt_11 : decode cX7_isAt 11 = .ok (.aload_n 0, 1) := by decide +kernel
theorem dX7_isAt_12 : decode cX7_isAt 12 = .ok (.getfield 78, 3) := by decide +kernel
theorem dX7_isAt_15 : decode cX7_isAt 15 = .ok (.aload_n 0, 1) := by decide +kernel
theorem dX7_isAt_16 : decode cX7_isAt 16 = .ok (.getfield 114, 3) := by decide +kernel
theorem dX7_isAt_19 : decode cX7_isAt 19 = .ok (.baload, 1) := by decide +kernel
theorem dX7_isAt_20 : decode cX7_isAt 20 = .ok (.iload_n 1, 1) := by decide +kernel
theorem dX7_isAt_21 : decode cX7_isAt 21 = .ok (.if_icmp .lt 20, 3) := by decide +kernel
theorem dX7_isAt_24 : decode cX7_isAt 24 = .ok (.aload_n 0, 1) := by decide +kernel
theorem dX7_isAt_25 : decode cX7_isAt 25 = .ok (.getfield 78, 3) := by decide +kernel
theorem dX7_isAt_28 : decode cX7_isAt 28 = .ok (.aload_n 0, 1) := by decide +kernel
theorem dX7_isAt_29 : decode cX7_isAt 29 = .ok (.getfield 114, 3) := by decide +kernel
theorem dX7_isAt_32 : decode cX7_isAt 32 = .ok (.baload, 1) := by decide +kernel
theorem dX7_isAt_33 : decode cX7_isAt 33 = .ok (.iload_n 2, 1) := by decide +kernel
theorem dX7_isAt_34 : decode cX7_isAt 34 = .ok (.if_icmp .gt 7, 3) := by decide +kernel
theorem dX7_isAt_37 : decode cX7_isAt 37 = .ok (.iconst 1, 1) := by decide +kernel
theorem dX7_isAt_38 : decode cX7_isAt 38 = .ok (.goto 4, 3) := by decide +kernel
theorem dX7_isAt_41 : decode cX7_isAt 41 = .ok (.iconst 0, 1) := by decide +kernel
theorem dX7_isAt_42 : decode cX7_isAt 42 = .ok (.ireturn, 1) := by decide +kernel
theorem dX7_blanks_0 : decode cX7_blanks 0 = .ok (.aload_n 0, 1) := by decide +kernel
theorem dX7_blanks_1 : decode cX7_blanks 1 = .ok (.bipush 32, 2) := by decide +kernel
theorem dX7_blanks_3 : decode cX7_blanks 3 = .ok (.bipush 32, 2) := by decide +kernel
theorem dX7_blanks_5 : decode cX7_blanks 5 = .ok (.invokevirtual 117, 3) := by decide +kernel
theorem dX7_blanks_8 : decode cX7_blanks 8 = .ok (.ifCond .eq 16, 3) := by decide +kernel
theorem dX7_blanks_11 : decode cX7_blanks 11 = .ok (.aload_n 0, 1) := by decide +kernel
theorem dX7_blanks_12 : decode cX7_blanks 12 = .ok (.dup, 1) := by decide +kernel
theorem dX7_blanks_13 : decode cX7_blanks 13 = .ok (.getfield 114, 3) := by decide +kernel
theorem dX7_blanks_16 : decode cX7_blanks 16 = .ok (.iconst 1, 1) := by decide +kernel
theorem dX7_blanks_17 : decode cX7_blanks 17 = .ok (.iadd, 1) := by decide +kernel
theorem dX7_blanks_18 : decode cX7_blanks 18 = .ok (.putfield 114, 3) := by decide +kernel
theorem dX7_blanks_21 : decode cX7_blanks 21 = .ok (.goto (-21), 3) := by decide +kernel
theorem dX7_blanks_24 : decode cX7_blanks 24 = .ok (.aload_n 0, 1) := by decide +kernel
theorem dX7_blanks_25 : decode cX7_blanks 25 = .ok (.aload_n 0, 1) := by decide +kernel
theorem dX7_blanks_26 : decode cX7_blanks 26 = .ok (.getfield 114, 3) := by decide +kernel
theorem dX7_blanks_29 : decode cX7_blanks 29 = .ok (.putfield 121, 3) := by decide +kernel
theorem dX7_blanks_32 : decode cX7_blanks 32 = .ok (.return_, 1) := by decide +kernel
theorem dX7_word_0 : decode cX7_word 0 = .ok (.aload_n 0, 1) := by decide +kernel
theorem dX7_word_1 : decode cX7_word 1 = .ok (.invokevirtual 124, 3) := by decide +kernel
theorem dX7_word_4 : decode cX7_word 4 = .ok (.aload_n 0, 1) := by decide +kernel
theorem dX7_word_5 : decode cX7_word 5 = .ok (.bipush 97, 2) := by decide +kernel
theorem dX7_word_7 : decode cX7_word 7 = .ok (.bipush 122, 2) := by decide +kernel
theorem dX7_word_9 : decode cX7_word 9 = .ok (.invokevirtual 117, 3) := by decide +kernel
theorem dX7_word_12 : decode cX7_word 12 = .ok (.ifCond .eq 16, 3) := by decide +kernel
theorem dX7_word_15 : decode cX7_word 15 = .ok (.aload_n 0, 1) := by decide +kernel
theorem dX7_word_16 : decode cX7_word 16 = .ok (.dup, 1) := by decide +kernel
theorem dX7_word_17 : decode cX7_word 17 = .ok (.getfield 114, 3) := by decide +kernel
theorem dX7_word_20 : decode cX7_word 20 = .ok (.iconst 1, 1) := by decide +kernel
theorem dX7_word_21 : decode cX7_word 21 = .ok (.iadd, 1) := by decide +kernel
theorem dX7_word_22 : decode cX7_word 22 = .ok (.putfield 114, 3) := by decide +kernel
theorem dX7_word_25 : decode cX7_word 25 = .ok (.goto (-21), 3) := by decide +kernel
theorem dX7_word_28 : decode cX7_word 28 = .ok (.return_, 1) := by decide +kernel
theorem dX7_isWord_0 : decode cX7_isWord 0 = .ok (.aload_n 0, 1) := by decide +kernel
theorem dX7_isWord_1 : decode cX7_isWord 1 = .ok (.getfield 114, 3) := by decide +kernel
theorem dX7_isWord_4 : decode cX7_isWord 4 = .ok (.aload_n 0, 1) := by decide +kernel
theorem dX7_isWord_5 : decode cX7_isWord 5 = .ok (.getfield 121, 3) := by decide +kernel
theorem dX7_isWord_8 : decode cX7_isWord 8 = .ok (.isub, 1) := by decide +kernel
theorem dX7_isWord_9 : decode cX7_isWord 9 = .ok (.aload_n 1, 1) := by decide +kernel
theorem dX7_isWord_10 : decode cX7_isWord 10 = .ok (.invokevirtual 127, 3) := by decide +kernel
theorem dX7_isWord_13 : decode cX7_isWord 13 = .ok (.if_icmp .ne 7, 3) := by decide +kernel
theorem dX7_isWord_16 : decode cX7_isWord 16 = .ok (.iconst 1, 1) := by decide +kernel
theorem dX7_isWord_17 : decode cX7_isWord 17 = .ok (.goto 4, 3) := by decide +kernel
theorem dX7_isWord_20 : decode cX7_isWord 20 = .ok (.iconst 0, 1) := by decide +kernel
theorem dX7_isWord_21 : decode cX7_isWord 21 = .ok (.istore_n 2, 1) := by decide +kernel
theorem dX7_isWord_22 : decode cX7_isWord 22 = .ok (.iconst 0, 1) := by decide +kernel
theorem dX7_isWord_23 : decode cX7_isWord 23 = .ok (.istore_n 3, 1) := by decide +kernel
theorem dX7_isWord_24 : decode cX7_isWord 24 = .ok (.iload_n 2, 1) := by decide +kernel
theorem dX7_isWord_25 : decode cX7_isWord 25 = .ok (.ifCond .eq 42, 3) := by decide +kernel
theorem dX7_isWord_28 : decode cX7_isWord 28 = .ok (.iload_n 3, 1) := by decide +kernel
theorem dX7_isWord_29 : decode cX7_isWord 29 = .ok (.aload_n 1, 1) := by decide +kernel
theorem dX7_isWord_30 : decode cX7_isWord 30 = .ok (.invokevirtual 127, 3) := by decide +kernel
theorem dX7_isWord_33 : decode cX7_isWord 33 = .ok (.if_icmp .ge 34, 3) := by decide +kernel
theorem dX7_isWord_36 : decode cX7_isWord 36 = .ok (.aload_n 0, 1) := by decide +kernel
theorem dX7_isWord_37 : decode cX7_isWord 37 = .ok (.getfield 78, 3) := by decide +kernel
theorem dX7_isWord_40 : decode cX7_isWord 40 = .ok (.aload_n 0, 1) := by decide +kernel
theorem dX7_isWord_41 : decode cX7_isWord 41 = .ok (.getfield 121, 3) := by decide +kernel
theorem dX7_isWord_44 : decode cX7_isWord 44 = .ok (.iload_n 3, 1) := by decide +kernel
theorem dX7_isWord_45 : decode cX7_isWord 45 = .ok (.iadd, 1) := by decide +kernel
theorem dX7_isWord_46 : decode cX7_isWord 46 = .ok (.baload, 1) := by decide +kernel
theorem dX7_isWord_47 : decode cX7_isWord 47 = .ok (.aload_n 1, 1) := by decide +kernel
theorem dX7_isWord_48 : decode cX7_isWord 48 = .ok (.iload_n 3, 1) := by decide +kernel
theorem dX7_isWord_49 : decode cX7_isWord 49 = .ok (.invokevirtual 133, 3) := by decide +kernel
theorem dX7_isWord_52 : decode cX7_isWord 52 = .ok (.if_icmp .ne 7, 3) := by decide +kernel
theorem dX7_isWord_55 : decode cX7_isWord 55 = .ok (.iconst 1, 1) := by decide +kernel
theorem dX7_isWord_56 : decode cX7_isWord 56 = .ok (.goto 4, 3) := by decide +kernel
theorem dX7_isWord_59 : decode cX7_isWord 59 = .ok (.iconst 0, 1) := by decide +kernel
theorem dX7_isWord_60 : decode cX7_isWord 60 = .ok (.istore_n 2, 1) := by decide +kernel
theorem dX7_isWord_61 : decode cX7_isWord 61 = .ok (.iinc 3 1, 3) := by decide +kernel
theorem dX7_isWord_64 : decode cX7_isWord 64 = .ok (.goto (-40), 3) := by decide +kernel
theorem dX7_isWord_67 : decode cX7_isWord 67 = .ok (.iload_n 2, 1) := by decide +kernel
theorem dX7_isWord_68 : decode cX7_isWord 68 = .ok (.ireturn, 1) := by decide +kernel
theorem dX7_isSign_0 : decode cX7_isSign 0 = .ok (.aload_n 0, 1) := by decide +kernel
theorem dX7_isSign_1 : decode cX7_isSign 1 = .ok (.ldc 137, 2) := by decide +kernel
theorem dX7_isSign_3 : decode cX7_isSign 3 = .ok (.invokevirtual 139, 3) := by decide +kernel
theorem dX7_isSign_6 : decode cX7_isSign 6 = .ok (.ifCond .ne 21, 3) := by decide +kernel
theorem dX7_isSign_9 : decode cX7_isSign 9 = .ok (.aload_n 0, 1) := by decide +kernel
theorem dX7_isSign_10 : decode cX7_isSign 10 = .ok (.ldc 143, 2) := by decide +kernel
theorem dX7_isSign_12 : decode cX7_isSign 12 = .ok (.invokevirtual 139, 3) := by decide +kernel
theorem dX7_isSign_15 : decode cX7_isSign 15 = .ok (.ifCond .ne 12, 3) := by decide +kernel
theorem dX7_isSign_18 : decode cX7_isSign 18 = .ok (.aload_n 0, 1) := by decide +kernel
theorem dX7_isSign_19 : decode cX7_isSign 19 = .ok (.ldc 145, 2) := by decide +kernel
theorem dX7_isSign_21 : decode cX7_isSign 21 = .ok (.invokevirtual 139, 3) := by decide +kernel
theorem dX7_isSign_24 : decode cX7_isSign 24 = .ok (.ifCond .eq 7, 3) := by decide +kernel
theorem dX7_isSign_27 : decode cX7_isSign 27 = .ok (.iconst 1, 1) := by decide +kernel
theorem dX7_isSign_28 : decode cX7_isSign 28 = .ok (.goto 4, 3) := by decide +kernel
theorem dX7_isSign_31 : decode cX7_isSign 31 = .ok (.iconst 0, 1) := by decide +kernel
theorem dX7_isSign_32 : decode cX7_isSign 32 = .ok (.ireturn, 1) := by decide +kernel
theorem dX7_readPattern_0 : decode cX7_readPattern 0 = .ok (.iconst 0, 1) := by decide +kernel
theorem dX7_readPattern_1 : decode cX7_readPattern 1 = .ok (.istore_n 1, 1) := by decide +kernel
theorem dX7_readPattern_2 : decode cX7_readPattern 2 = .ok (.iconst 0, 1) := by decide +kernel
theorem dX7_readPattern_3 : decode cX7_readPattern 3 = .ok (.istore_n 2, 1) := by decide +kernel
theorem dX7_readPattern_4 : decode cX7_readPattern 4 = .ok (.aload_n 0, 1) := by decide +kernel
theorem dX7_readPattern_5 : decode cX7_readPattern 5 = .ok (.invokevirtual 147, 3) := by decide +kernel
theorem dX7_readPattern_8 : decode cX7_readPattern 8 = .ok (.aload_n 0, 1) := by decide +kernel
theorem dX7_readPattern_9 : decode cX7_readPattern 9 = .ok (.ldc 145, 2) := by decide +kernel
theorem dX7_readPattern_11 : decode cX7_readPattern 11 = .ok (.invokevirtual 139, 3) := by decide +kernel
theorem dX7_readPattern_14 : decode cX7_readPattern 14 = .ok (.istore_n 3, 1) := by decide +kernel
theorem dX7_readPattern_15 : decode cX7_readPattern 15 = .ok (.iload_n 3, 1) := by decide +kernel
theorem dX7_readPattern_16 : decode cX7_readPattern 16 = .ok (.ifCond .eq 7, 3) := by decide +kernel
theorem dX7_readPattern_19 : decode cX7_readPattern 19 = .ok (.aload_n 0, 1) := by decide +kernel
theorem dX7_readPattern_20 : decode cX7_readPattern 20 = .ok (.invokevirtual 147, 3) := by decide +kernel
theorem dX7_readPattern_23 : decode cX7_readPattern 23 = .ok (.aload_n 0, 1) := by decide +kernel
theorem dX7_readPattern_24 : decode cX7_readPattern 24 = .ok (.getfield 114, 3) := by decide +kernel
theorem dX7_readPattern_27 : decode cX7_readPattern 27 = .ok (.aload_n 0, 1) := by decide +kernel
theorem dX7_readPattern_28 : decode cX7_readPattern 28 = .ok (.getfield 121, 3) := by decide +kernel
theorem dX7_readPattern_31 : decode cX7_readPattern 31 = .ok (.if_icmp .eq 30, 3) := by decide +kernel
theorem dX7_readPattern_34 : decode cX7_readPattern 34 = .ok (.aload_n 0, 1) := by decide +kernel
theorem dX7_readPattern_35 : decode cX7_readPattern 35 = .ok (.invokevirtual 150, 3) := by decide +kernel
theorem dX7_readPattern_38 : decode cX7_readPattern 38 = .ok (.ifCond .ne 23, 3) := by decide +kernel
theorem dX7_readPattern_41 : decode cX7_readPattern 41 = .ok (.iload_n 1, 1) := by decide +kernel
theorem dX7_readPattern_42 : decode cX7_readPattern 42 = .ok (.bipush 12, 2) := by decide +kernel
theorem dX7_readPattern_44 : decode cX7_readPattern 44 = .ok (.if_icmp .eq 17, 3) := by decide +kernel
theorem dX7_readPattern_47 : decode cX7_readPattern 47 = .ok (.aload_n 0, 1) := by decide +kernel
theorem dX7_readPattern_48 : decode cX7_readPattern 48 = .ok (.getfield 114, 3) := by decide +kernel
theorem dX7_readPattern_51 : decode cX7_readPattern 51 = .ok (.aload_n 0, 1) := by decide +kernel
theorem dX7_readPattern_52 : decode cX7_readPattern 52 = .ok (.getfield 121, 3) := by decide +kernel
theorem dX7_readPattern_55 : decode cX7_readPattern 55 = .ok (.isub, 1) := by decide +kernel
theorem dX7_readPattern_56 : decode cX7_readPattern 56 = .ok (.bipush 12, 2) := by decide +kernel
theorem dX7_readPattern_58 : decode cX7_readPattern 58 = .ok (.if_icmp .le 5, 3) := by decide +kernel
theorem dX7_readPattern_61 : decode cX7_readPattern 61 = .ok (.iconst 0, 1) := by decide +kernel
theorem dX7_readPattern_62 : decode cX7_readPattern 62 = .ok (.ireturn, 1) := by decide +kernel
theorem dX7_readPattern_63 : decode cX7_readPattern 63 = .ok (.sipush 144, 3) := by decide +kernel
theorem dX7_readPattern_66 : decode cX7_readPattern 66 = .ok (.iload_n 1, 1) := by decide +kernel
theorem dX7_readPattern_67 : decode cX7_readPattern 67 = .ok (.iadd, 1) := by decide +kernel
theorem dX7_readPattern_68 : decode cX7_readPattern 68 = .ok (.istore 4, 2) := by decide +kernel
theorem dX7_readPattern_70 : decode cX7_readPattern 70 = .ok (.aload_n 0, 1) := by decide +kernel
theorem dX7_readPattern_71 : decode cX7_readPattern 71 = .ok (.getfield 30, 3) := by decide +kernel
theorem dX7_readPattern_74 : decode cX7_readPattern 74 = .ok (.iload 4, 2) := by decide +kernel
theorem dX7_readPattern_76 : decode cX7_readPattern 76 = .ok (.aload_n 0, 1) := by decide +kernel
theorem dX7_readPattern_77 : decode cX7_readPattern 77 = .ok (.getfield 114, 3) := by decide +kernel
theorem dX7_readPattern_80 : decode cX7_readPattern 80 = .ok (.aload_n 0, 1) := by decide +kernel
theorem dX7_readPattern_81 : decode cX7_readPattern 81 = .ok (.getfield 121, 3) := by decide +kernel
theorem dX7_readPattern_84 : decode cX7_readPattern 84 = .ok (.isub, 1) := by decide +kernel
theorem dX7_readPattern_85 : decode cX7_readPattern 85 = .ok (.iastore, 1) := by decide +kernel
theorem dX7_readPattern_86 : decode cX7_readPattern 86 = .ok (.iconst 0, 1) := by decide +kernel
theorem dX7_readPattern_87 : decode cX7_readPattern 87 = .ok (.istore 5, 2) := by decide +kernel
theorem dX7_readPattern_89 : decode cX7_readPattern 89 = .ok (.iload 5, 2) := by decide +kernel
theorem dX7_readPattern_91 : decode cX7_readPattern 91 = .ok (.aload_n 0, 1) := by decide +kernel
theorem dX7_readPattern_92 : decode cX7_readPattern 92 = .ok (.getfield 30, 3) := by decide +kernel
theorem dX7_readPattern_95 : decode cX7_readPattern 95 = .ok (.iload 4, 2) := by decide +kernel
theorem dX7_readPattern_97 : decode cX7_readPattern 97 = .ok (.iaload, 1) := by decide +kernel
theorem dX7_readPattern_98 : decode cX7_readPattern 98 = .ok (.if_icmp .ge 34, 3) := by decide +kernel
theorem dX7_readPattern_101 : decode cX7_readPattern 101 = .ok (.aload_n 0, 1) := by decide +kernel
theorem dX7_readPattern_102 : decode cX7_readPattern 102 = .ok (.getfield 26, 3) := by decide +kernel
theorem dX7_readPattern_105 : decode cX7_readPattern 105 = .ok (.bipush 12, 2) := by decide +kernel
theorem dX7_readPattern_107 : decode cX7_readPattern 107 = .ok (.iload 4, 2) := by decide +kernel
theorem dX7_readPattern_109 : decode cX7_readPattern 109 = .ok (.imul, 1) := by decide +kernel
theorem dX7_readPattern_110 : decode cX7_readPattern 110 = .ok (.iload 5, 2) := by decide +kernel
theorem dX7_readPattern_112 : decode cX7_readPattern 112 = .ok (.iadd, 1) := by decide +kernel
theorem dX7_readPattern_113 : decode cX7_readPattern 113 = .ok (.aload_n 0, 1) := by decide +kernel
theorem dX7_readPattern_114 : decode cX7_readPattern 114 = .ok (.getfield 78, 3) := by decide +kernel
theorem dX7_readPattern_117 : decode cX7_readPattern 117 = .ok (.aload_n 0, 1) := by decide +kernel
theorem dX7_readPattern_118 : decode cX7_readPattern 118 = .ok (.getfield 121, 3) := by decide +kernel
theorem dX7_readPattern_121 : decode cX7_readPattern 121 = .ok (.iload 5, 2) := by decide +kernel
theorem dX7_readPattern_123 : decode cX7_readPattern 123 = .ok (.iadd, 1) := by decide +kernel
theorem dX7_readPattern_124 : decode cX7_readPattern 124 = .ok (.baload, 1) := by decide +kernel
theorem dX7_readPattern_125 : decode cX7_readPattern 125 = .ok (.bastore, 1) := by decide +kernel
theorem dX7_readPattern_126 : decode cX7_readPattern 126 = .ok (.iinc 5 1, 3) := by decide +kernel
theorem dX7_readPattern_129 : decode cX7_readPattern 129 = .ok (.goto (-40), 3) := by decide +kernel
theorem dX7_readPattern_132 : decode cX7_readPattern 132 = .ok (.aload_n 0, 1) := by decide +kernel
theorem dX7_readPattern_133 : decode cX7_readPattern 133 = .ok (.getfield 33, 3) := by decide +kernel
theorem dX7_readPattern_136 : decode cX7_readPattern 136 = .ok (.iload 4, 2) := by decide +kernel
theorem dX7_readPattern_138 : decode cX7_readPattern 138 = .ok (.iload_n 3, 1) := by decide +kernel
theorem dX7_readPattern_139 : decode cX7_readPattern 139 = .ok (.bastore, 1) := by decide +kernel
theorem dX7_readPattern_140 : decode cX7_readPattern 140 = .ok (.aload_n 0, 1) := by decide +kernel
theorem dX7_readPattern_141 : decode cX7_readPattern 141 = .ok (.getfield 36, 3) := by decide +kernel
theorem dX7_readPattern_144 : decode cX7_readPattern 144 = .ok (.iload 4, 2) := by decide +kernel
theorem dX7_readPattern_146 : decode cX7_readPattern 146 = .ok (.iload_n 2, 1) := by decide +kernel
theorem dX7_readPattern_147 : decode cX7_readPattern 147 = .ok (.bastore, 1) := by decide +kernel
theorem dX7_readPattern_148 : decode cX7_readPattern 148 = .ok (.iinc 1 1, 3) := by decide +kernel
theorem dX7_readPattern_151 : decode cX7_readPattern 151 = .ok (.aload_n 0, 1) := by decide +kernel
theorem dX7_readPattern_152 : decode cX7_readPattern 152 = .ok (.getfield 23, 3) := by decide +kernel
theorem dX7_readPattern_155 : decode cX7_readPattern 155 = .ok (.bipush 12, 2) := by decide +kernel
theorem dX7_readPattern_157 : decode cX7_readPattern 157 = .ok (.iload_n 1, 1) := by decide +kernel
theorem dX7_readPattern_158 : decode cX7_readPattern 158 = .ok (.iastore, 1) := by decide +kernel
theorem dX7_readPattern_159 : decode cX7_readPattern 159 = .ok (.aload_n 0, 1) := by decide +kernel
theorem dX7_readPattern_160 : decode cX7_readPattern 160 = .ok (.invokevirtual 147, 3) := by decide +kernel
theorem dX7_readPattern_163 : decode cX7_readPattern 163 = .ok (.aload_n 0, 1) := by decide +kernel
theorem dX7_readPattern_164 : decode cX7_readPattern 164 = .ok (.getfield 114, 3) := by decide +kernel
theorem dX7_readPattern_167 : decode cX7_readPattern 167 = .ok (.aload_n 0, 1) := by decide +kernel
theorem dX7_readPattern_168 : decode cX7_readPattern 168 = .ok (.getfield 121, 3) := by decide +kernel
theorem dX7_readPattern_171 : decode cX7_readPattern 171 = .ok (.if_icmp .ne 16, 3) := by decide +kernel
theorem dX7_readPattern_174 : decode cX7_readPattern 174 = .ok (.aload_n 0, 1) := by decide +kernel
theorem dX7_readPattern_175 : decode cX7_readPattern 175 = .ok (.getfield 114, 3) := by decide +kernel
theorem dX7_readPattern_178 : decode cX7_readPattern 178 = .ok (.aload_n 0, 1) := by decide +kernel
theorem dX7_readPattern_179 : decode cX7_readPattern 179 = .ok (.getfield 111, 3) := by decide +kernel
theorem dX7_readPattern_182 : decode cX7_readPattern 182 = .ok (.if_icmp .ne 5, 3) := by decide +kernel
theorem dX7_readPattern_185 : decode cX7_readPattern 185 = .ok (.iconst 1, 1) := by decide +kernel
theorem dX7_readPattern_186 : decode cX7_readPattern 186 = .ok (.ireturn, 1) := by decide +kernel
theorem dX7_readPattern_187 : decode cX7_readPattern 187 = .ok (.aload_n 0, 1) := by decide +kernel
theorem dX7_readPattern_188 : decode cX7_readPattern 188 = .ok (.ldc 143, 2) := by decide +kernel
theorem dX7_readPattern_190 : decode cX7_readPattern 190 = .ok (.invokevirtual 139, 3) := by decide +kernel
theorem dX7_readPattern_193 : decode cX7_readPattern 193 = .ok (.istore_n 2, 1) := by decide +kernel
theorem dX7_readPattern_194 : decode cX7_readPattern 194 = .ok (.iload_n 2, 1) := by decide +kernel
theorem dX7_readPattern_195 : decode cX7_readPattern 195 = .ok (.ifCond .ne 14, 3) := by decide +kernel
theorem dX7_readPattern_198 : decode cX7_readPattern 198 = .ok (.aload_n 0, 1) := by decide +kernel
theorem dX7_readPattern_199 : decode cX7_readPattern 199 = .ok (.ldc 137, 2) := by decide +kernel
theorem dX7_readPattern_201 : decode cX7_readPattern 201 = .ok (.invokevirtual 139, 3) := by decide +kernel
theorem dX7_readPattern_204 : decode cX7_readPattern 204 = .ok (.ifCond .ne 5, 3) := by decide +kernel
theorem dX7_readPattern_207 : decode cX7_readPattern 207 = .ok (.iconst 0, 1) := by decide +kernel
theorem dX7_readPattern_208 : decode cX7_readPattern 208 = .ok (.ireturn, 1) := by decide +kernel
theorem dX7_readPattern_209 : decode cX7_readPattern 209 = .ok (.goto (-205), 3) := by decide +kernel
theorem dX7_readsPattern_0 : decode cX7_readsPattern 0 = .ok (.aload_n 0, 1) := by decide +kernel
theorem dX7_readsPattern_1 : decode cX7_readsPattern 1 = .ok (.invokevirtual 154, 3) := by decide +kernel
theorem dX7_readsPattern_4 : decode cX7_readsPattern 4 = .ok (.istore_n 1, 1) := by decide +kernel
theorem dX7_readsPattern_5 : decode cX7_readsPattern 5 = .ok (.aload_n 0, 1) := by decide +kernel
theorem dX7_readsPattern_6 : decode cX7_readsPattern 6 = .ok (.iload_n 1, 1) := by decide +kernel
theorem dX7_readsPattern_7 : decode cX7_readsPattern 7 = .ok (.ifCond .eq 7, 3) := by decide +kernel
theorem dX7_readsPattern_10 : decode cX7_readsPattern 10 = .ok (.iconst (-1), 1) := by decide +kernel
theorem dX7_readsPattern_11 : decode cX7_readsPattern 11 = .ok (.goto 7, 3) := by decide +kernel
theorem dX7_readsPattern_14 : decode cX7_readsPattern 14 = .ok (.aload_n 0, 1) := by decide +kernel
theorem dX7_readsPattern_15 : decode cX7_readsPattern 15 = .ok (.getfield 121, 3) := by decide +kernel
theorem dX7_readsPattern_18 : decode cX7_readsPattern 18 = .ok (.putfield 81, 3) := by decide +kernel
theorem dX7_readsPattern_21 : decode cX7_readsPattern 21 = .ok (.iload_n 1, 1) := by decide +kernel
theorem dX7_readsPattern_22 : decode cX7_readsPattern 22 = .ok (.ireturn, 1) := by decide +kernel
theorem dX7_setsPattern_0 : decode cX7_setsPattern 0 = .ok (.aload_n 0, 1) := by decide +kernel
theorem dX7_setsPattern_1 : decode cX7_setsPattern 1 = .ok (.getfield 23, 3) := by decide +kernel
theorem dX7_setsPattern_4 : decode cX7_setsPattern 4 = .ok (.iload_n 1, 1) := by decide +kernel
theorem dX7_setsPattern_5 : decode cX7_setsPattern 5 = .ok (.aload_n 0, 1) := by decide +kernel
theorem dX7_setsPattern_6 : decode cX7_setsPattern 6 = .ok (.getfield 23, 3) := by decide +kernel
theorem dX7_setsPattern_9 : decode cX7_setsPattern 9 = .ok (.bipush 12, 2) := by decide +kernel
theorem dX7_setsPattern_11 : decode cX7_setsPattern 11 = .ok (.iaload, 1) := by decide +kernel
theorem dX7_setsPattern_12 : decode cX7_setsPattern 12 = .ok (.iastore, 1) := by decide +kernel
theorem dX7_setsPattern_13 : decode cX7_setsPattern 13 = .ok (.iconst 0, 1) := by decide +kernel
theorem dX7_setsPattern_14 : decode cX7_setsPattern 14 = .ok (.istore_n 2, 1) := by decide +kernel
theorem dX7_setsPattern_15 : decode cX7_setsPattern 15 = .ok (.iload_n 2, 1) := by decide +kernel
theorem dX7_setsPattern_16 : decode cX7_setsPattern 16 = .ok (.aload_n 0, 1) := by decide +kernel
theorem dX7_setsPattern_17 : decode cX7_setsPattern 17 = .ok (.getfield 23, 3) := by decide +kernel
theorem dX7_setsPattern_20 : decode cX7_setsPattern 20 = .ok (.iload_n 1, 1) := by decide +kernel
theorem dX7_setsPattern_21 : decode cX7_setsPattern 21 = .ok (.iaload, 1) := by decide +kernel
theorem dX7_setsPattern_22 : decode cX7_setsPattern 22 = .ok (.if_icmp .ge 126, 3) := by decide +kernel
theorem dX7_setsPattern_25 : decode cX7_setsPattern 25 = .ok (.aload_n 0, 1) := by decide +kernel
theorem dX7_setsPattern_26 : decode cX7_setsPattern 26 = .ok (.getfield 30, 3) := by decide +kernel
theorem dX7_setsPattern_29 : decode cX7_setsPattern 29 = .ok (.bipush 12, 2) := by decide +kernel
theorem dX7_setsPattern_31 : decode cX7_setsPattern 31 = .ok (.iload_n 1, 1) := by decide +kernel
theorem dX7_setsPattern_32 : decode cX7_setsPattern 32 = .ok (.imul, 1) := by decide +kernel
theorem dX7_setsPattern_33 : decode cX7_setsPattern 33 = .ok (.iload_n 2, 1) := by decide +kernel
theorem dX7_setsPattern_34 : decode cX7_setsPattern 34 = .ok (.iadd, 1) := by decide +kernel
theorem dX7_setsPattern_35 : decode cX7_setsPattern 35 = .ok (.aload_n 0, 1) := by decide +kernel
theorem dX7_setsPattern_36 : decode cX7_setsPattern 36 = .ok (.getfield 30, 3) := by decide +kernel
theorem dX7_setsPattern_39 : decode cX7_setsPattern 39 = .ok (.sipush 144, 3) := by decide +kernel
theorem dX7_setsPattern_42 : decode cX7_setsPattern 42 = .ok (.iload_n 2, 1) := by decide +kernel
theorem dX7_setsPattern_43 : decode cX7_setsPattern 43 = .ok (.iadd, 1) := by decide +kernel
theorem dX7_setsPattern_44 : decode cX7_setsPattern 44 = .ok (.iaload, 1) := by decide +kernel
theorem dX7_setsPattern_45 : decode cX7_setsPattern 45 = .ok (.iastore, 1) := by decide +kernel
theorem dX7_setsPattern_46 : decode cX7_setsPattern 46 = .ok (.aload_n 0, 1) := by decide +kernel
theorem dX7_setsPattern_47 : decode cX7_setsPattern 47 = .ok (.getfield 33, 3) := by decide +kernel
theorem dX7_setsPattern_50 : decode cX7_setsPattern 50 = .ok (.bipush 12, 2) := by decide +kernel
theorem dX7_setsPattern_52 : decode cX7_setsPattern 52 = .ok (.iload_n 1, 1) := by decide +kernel
theorem dX7_setsPattern_53 : decode cX7_setsPattern 53 = .ok (.imul, 1) := by decide +kernel
theorem dX7_setsPattern_54 : decode cX7_setsPattern 54 = .ok (.iload_n 2, 1) := by decide +kernel
theorem dX7_setsPattern_55 : decode cX7_setsPattern 55 = .ok (.iadd, 1) := by decide +kernel
theorem dX7_setsPattern_56 : decode cX7_setsPattern 56 = .ok (.aload_n 0, 1) := by decide +kernel
theorem dX7_setsPattern_57 : decode cX7_setsPattern 57 = .ok (.getfield 33, 3) := by decide +kernel
theorem dX7_setsPattern_60 : decode cX7_setsPattern 60 = .ok (.sipush 144, 3) := by decide +kernel
theorem dX7_setsPattern_63 : decode cX7_setsPattern 63 = .ok (.iload_n 2, 1) := by decide +kernel
theorem dX7_setsPattern_64 : decode cX7_setsPattern 64 = .ok (.iadd, 1) := by decide +kernel
theorem dX7_setsPattern_65 : decode cX7_setsPattern 65 = .ok (.baload, 1) := by decide +kernel
theorem dX7_setsPattern_66 : decode cX7_setsPattern 66 = .ok (.bastore, 1) := by decide +kernel
theorem dX7_setsPattern_67 : decode cX7_setsPattern 67 = .ok (.aload_n 0, 1) := by decide +kernel
theorem dX7_setsPattern_68 : decode cX7_setsPattern 68 = .ok (.getfield 36, 3) := by decide +kernel
theorem dX7_setsPattern_71 : decode cX7_setsPattern 71 = .ok (.bipush 12, 2) := by decide +kernel
theorem dX7_setsPattern_73 : decode cX7_setsPattern 73 = .ok (.iload_n 1, 1) := by decide +kernel
theorem dX7_setsPattern_74 : decode cX7_setsPattern 74 = .ok (.imul, 1) := by decide +kernel
theorem dX7_setsPattern_75 : decode cX7_setsPattern 75 = .ok (.iload_n 2, 1) := by decide +kernel
theorem dX7_setsPattern_76 : decode cX7_setsPattern 76 = .ok (.iadd, 1) := by decide +kernel
theorem dX7_setsPattern_77 : decode cX7_setsPattern 77 = .ok (.aload_n 0, 1) := by decide +kernel
theorem dX7_setsPattern_78 : decode cX7_setsPattern 78 = .ok (.getfield 36, 3) := by decide +kernel
theorem dX7_setsPattern_81 : decode cX7_setsPattern 81 = .ok (.sipush 144, 3) := by decide +kernel
theorem dX7_setsPattern_84 : decode cX7_setsPattern 84 = .ok (.iload_n 2, 1) := by decide +kernel
theorem dX7_setsPattern_85 : decode cX7_setsPattern 85 = .ok (.iadd, 1) := by decide +kernel
theorem dX7_setsPattern_86 : decode cX7_setsPattern 86 = .ok (.baload, 1) := by decide +kernel
theorem dX7_setsPattern_87 : decode cX7_setsPattern 87 = .ok (.bastore, 1) := by decide +kernel
theorem dX7_setsPattern_88 : decode cX7_setsPattern 88 = .ok (.iconst 0, 1) := by decide +kernel
theorem dX7_setsPattern_89 : decode cX7_setsPattern 89 = .ok (.istore_n 3, 1) := by decide +kernel
theorem dX7_setsPattern_90 : decode cX7_setsPattern 90 = .ok (.iload_n 3, 1) := by decide +kernel
theorem dX7_setsPattern_91 : decode cX7_setsPattern 91 = .ok (.aload_n 0, 1) := by decide +kernel
theorem dX7_setsPattern_92 : decode cX7_setsPattern 92 = .ok (.getfield 30, 3) := by decide +kernel
theorem dX7_setsPattern_95 : decode cX7_setsPattern 95 = .ok (.bipush 12, 2) := by decide +kernel
theorem dX7_setsPattern_97 : decode cX7_setsPattern 97 = .ok (.iload_n 1, 1) := by decide +kernel
theorem dX7_setsPattern_98 : decode cX7_setsPattern 98 = .ok (.imul, 1) := by decide +kernel
theorem dX7_setsPattern_99 : decode cX7_setsPattern 99 = .ok (.iload_n 2, 1) := by decide +kernel
theorem dX7_setsPattern_100 : decode cX7_setsPattern 100 = .ok (.iadd, 1) := by decide +kernel
theorem dX7_setsPattern_101 : decode cX7_setsPattern 101 = .ok (.iaload, 1) := by decide +kernel
theorem dX7_setsPattern_102 : decode cX7_setsPattern 102 = .ok (.if_icmp .ge 40, 3) := by decide +kernel
theorem dX7_setsPattern_105 : decode cX7_setsPattern 105 = .ok (.aload_n 0, 1) := by decide +kernel
theorem dX7_setsPattern_106 : decode cX7_setsPattern 106 = .ok (.getfield 26, 3) := by decide +kernel
theorem dX7_setsPattern_109 : decode cX7_setsPattern 109 = .ok (.bipush 12, 2) := by decide +kernel
theorem dX7_setsPattern_111 : decode cX7_setsPattern 111 = .ok (.bipush 12, 2) := by decide +kernel
theorem dX7_setsPattern_113 : decode cX7_setsPattern 113 = .ok (.iload_n 1, 1) := by decide +kernel
theorem dX7_setsPattern_114 : decode cX7_setsPattern 114 = .ok (.imul, 1) := by decide +kernel
theorem dX7_setsPattern_115 : decode cX7_setsPattern 115 = .ok (.iload_n 2, 1) := by decide +kernel
theorem dX7_setsPattern_116 : decode cX7_setsPattern 116 = .ok (.iadd, 1) := by decide +kernel
theorem dX7_setsPattern_117 : decode cX7_setsPattern 117 = .ok (.imul, 1) := by decide +kernel
theorem dX7_setsPattern_118 : decode cX7_setsPattern 118 = .ok (.iload_n 3, 1) := by decide +kernel
theorem dX7_setsPattern_119 : decode cX7_setsPattern 119 = .ok (.iadd, 1) := by decide +kernel
theorem dX7_setsPattern_120 : decode cX7_setsPattern 120 = .ok (.aload_n 0, 1) := by decide +kernel
theorem dX7_setsPattern_121 : decode cX7_setsPattern 121 = .ok (.getfield 26, 3) := by decide +kernel
theorem dX7_setsPattern_124 : decode cX7_setsPattern 124 = .ok (.bipush 12, 2) := by decide +kernel
theorem dX7_setsPattern_126 : decode cX7_setsPattern 126 = .ok (.sipush 144, 3) := by decide +kernel
theorem dX7_setsPattern_129 : decode cX7_setsPattern 129 = .ok (.iload_n 2, 1) := by decide +kernel
theorem dX7_setsPattern_130 : decode cX7_setsPattern 130 = .ok (.iadd, 1) := by decide +kernel
theorem dX7_setsPattern_131 : decode cX7_setsPattern 131 = .ok (.imul, 1) := by decide +kernel
theorem dX7_setsPattern_132 : decode cX7_setsPattern 132 = .ok (.iload_n 3, 1) := by decide +kernel
theorem dX7_setsPattern_133 : decode cX7_setsPattern 133 = .ok (.iadd, 1) := by decide +kernel
theorem dX7_setsPattern_134 : decode cX7_setsPattern 134 = .ok (.baload, 1) := by decide +kernel
theorem dX7_setsPattern_135 : decode cX7_setsPattern 135 = .ok (.bastore, 1) := by decide +kernel
theorem dX7_setsPattern_136 : decode cX7_setsPattern 136 = .ok (.iinc 3 1, 3) := by decide +kernel
theorem dX7_setsPattern_139 : decode cX7_setsPattern 139 = .ok (.goto (-49), 3) := by decide +kernel
theorem dX7_setsPattern_142 : decode cX7_setsPattern 142 = .ok (.iinc 2 1, 3) := by decide +kernel
theorem dX7_setsPattern_145 : decode cX7_setsPattern 145 = .ok (.goto (-130), 3) := by decide +kernel
theorem dX7_setsPattern_148 : decode cX7_setsPattern 148 = .ok (.return_, 1) := by decide +kernel
theorem dX7_readLetter_0 : decode cX7_readLetter 0 = .ok (.iconst 0, 1) := by decide +kernel
theorem dX7_readLetter_1 : decode cX7_readLetter 1 = .ok (.istore_n 1, 1) := by decide +kernel
theorem dX7_readLetter_2 : decode cX7_readLetter 2 = .ok (.iconst 0, 1) := by decide +kernel
theorem dX7_readLetter_3 : decode cX7_readLetter 3 = .ok (.istore_n 2, 1) := by decide +kernel
theorem dX7_readLetter_4 : decode cX7_readLetter 4 = .ok (.iconst 1, 1) := by decide +kernel
theorem dX7_readLetter_5 : decode cX7_readLetter 5 = .ok (.istore_n 3, 1) := by decide +kernel
theorem dX7_readLetter_6 : decode cX7_readLetter 6 = .ok (.aload_n 0, 1) := by decide +kernel
theorem dX7_readLetter_7 : decode cX7_readLetter 7 = .ok (.invokevirtual 147, 3) := by decide +kernel
theorem dX7_readLetter_10 : decode cX7_readLetter 10 = .ok (.aload_n 0, 1) := by decide +kernel
theorem dX7_readLetter_11 : decode cX7_readLetter 11 = .ok (.getfield 114, 3) := by decide +kernel
theorem dX7_readLetter_14 : decode cX7_readLetter 14 = .ok (.aload_n 0, 1) := by decide +kernel
theorem dX7_readLetter_15 : decode cX7_readLetter 15 = .ok (.getfield 121, 3) := by decide +kernel
theorem dX7_readLetter_18 : decode cX7_readLetter 18 = .ok (.if_icmp .ne 17, 3) := by decide +kernel
theorem dX7_readLetter_21 : decode cX7_readLetter 21 = .ok (.aload_n 0, 1) := by decide +kernel
theorem dX7_readLetter_22 : decode cX7_readLetter 22 = .ok (.getfield 114, 3) := by decide +kernel
theorem dX7_readLetter_25 : decode cX7_readLetter 25 = .ok (.aload_n 0, 1) := by decide +kernel
theorem dX7_readLetter_26 : decode cX7_readLetter 26 = .ok (.getfield 111, 3) := by decide +kernel
theorem dX7_readLetter_29 : decode cX7_readLetter 29 = .ok (.if_icmp .ne 6, 3) := by decide +kernel
theorem dX7_readLetter_32 : decode cX7_readLetter 32 = .ok (.goto 125, 3) := by decide +kernel
theorem dX7_readLetter_35 : decode cX7_readLetter 35 = .ok (.aload_n 0, 1) := by decide +kernel
theorem dX7_readLetter_36 : decode cX7_readLetter 36 = .ok (.getfield 114, 3) := by decide +kernel
theorem dX7_readLetter_39 : decode cX7_readLetter 39 = .ok (.aload_n 0, 1) := by decide +kernel
theorem dX7_readLetter_40 : decode cX7_readLetter 40 = .ok (.getfield 121, 3) := by decide +kernel
theorem dX7_readLetter_43 : decode cX7_readLetter 43 = .ok (.if_icmp .ne 35, 3) := by decide +kernel
theorem dX7_readLetter_46 : decode cX7_readLetter 46 = .ok (.iload_n 3, 1) := by decide +kernel
theorem dX7_readLetter_47 : decode cX7_readLetter 47 = .ok (.ifCond .ne 14, 3) := by decide +kernel
theorem dX7_readLetter_50 : decode cX7_readLetter 50 = .ok (.aload_n 0, 1) := by decide +kernel
theorem dX7_readLetter_51 : decode cX7_readLetter 51 = .ok (.bipush 46, 2) := by decide +kernel
theorem dX7_readLetter_53 : decode cX7_readLetter 53 = .ok (.bipush 46, 2) := by decide +kernel
theorem dX7_readLetter_55 : decode cX7_readLetter 55 = .ok (.invokevirtual 117, 3) := by decide +kernel
theorem dX7_readLetter_58 : decode cX7_readLetter 58 = .ok (.ifCond .ne 5, 3) := by decide +kernel
theorem dX7_readLetter_61 : decode cX7_readLetter 61 = .ok (.iconst 0, 1) := by decide +kernel
theorem dX7_readLetter_62 : decode cX7_readLetter 62 = .ok (.ireturn, 1) := by decide +kernel
theorem dX7_readLetter_63 : decode cX7_readLetter 63 = .ok (.aload_n 0, 1) := by decide +kernel
theorem dX7_readLetter_64 : decode cX7_readLetter 64 = .ok (.dup, 1) := by decide +kernel
theorem dX7_readLetter_65 : decode cX7_readLetter 65 = .ok (.getfield 114, 3) := by decide +kernel
theorem dX7_readLetter_68 : decode cX7_readLetter 68 = .ok (.iconst 1, 1) := by decide +kernel
theorem dX7_readLetter_69 : decode cX7_readLetter 69 = .ok (.iadd, 1) := by decide +kernel
theorem dX7_readLetter_70 : decode cX7_readLetter 70 = .ok (.putfield 114, 3) := by decide +kernel
theorem dX7_readLetter_73 : decode cX7_readLetter 73 = .ok (.iconst 1, 1) := by decide +kernel
theorem dX7_readLetter_74 : decode cX7_readLetter 74 = .ok (.istore_n 3, 1) := by decide +kernel
theorem dX7_readLetter_75 : decode cX7_readLetter 75 = .ok (.goto (-69), 3) := by decide +kernel
theorem dX7_readLetter_78 : decode cX7_readLetter 78 = .ok (.iload_n 3, 1) := by decide +kernel
theorem dX7_readLetter_79 : decode cX7_readLetter 79 = .ok (.ifCond .eq 9, 3) := by decide +kernel
theorem dX7_readLetter_82 : decode cX7_readLetter 82 = .ok (.iload_n 2, 1) := by decide +kernel
theorem dX7_readLetter_83 : decode cX7_readLetter 83 = .ok (.bipush 6, 2) := by decide +kernel
theorem dX7_readLetter_85 : decode cX7_readLetter 85 = .ok (.if_icmp .eq 9, 3) := by decide +kernel
theorem dX7_readLetter_88 : decode cX7_readLetter 88 = .ok (.iload_n 1, 1) := by decide +kernel
theorem dX7_readLetter_89 : decode cX7_readLetter 89 = .ok (.bipush 60, 2) := by decide +kernel
theorem dX7_readLetter_91 : decode cX7_readLetter 91 = .ok (.if_icmp .ne 5, 3) := by decide +kernel
theorem dX7_readLetter_94 : decode cX7_readLetter 94 = .ok (.iconst 0, 1) := by decide +kernel
theorem dX7_readLetter_95 : decode cX7_readLetter 95 = .ok (.ireturn, 1) := by decide +kernel
theorem dX7_readLetter_96 : decode cX7_readLetter 96 = .ok (.iload_n 2, 1) := by decide +kernel
theorem dX7_readLetter_97 : decode cX7_readLetter 97 = .ok (.iload_n 3, 1) := by decide +kernel
theorem dX7_readLetter_98 : decode cX7_readLetter 98 = .ok (.ifCond .eq 7, 3) := by decide +kernel
theorem dX7_readLetter_101 : decode cX7_readLetter 101 = .ok (.iconst 1, 1) := by decide +kernel
theorem dX7_readLetter_102 : decode cX7_readLetter 102 = .ok (.goto 4, 3) := by decide +kernel
theorem dX7_readLetter_105 : decode cX7_readLetter 105 = .ok (.iconst 0, 1) := by decide +kernel
theorem dX7_readLetter_106 : decode cX7_readLetter 106 = .ok (.iadd, 1) := by decide +kernel
theorem dX7_readLetter_107 : decode cX7_readLetter 107 = .ok (.istore_n 2, 1) := by decide +kernel
theorem dX7_readLetter_108 : decode cX7_readLetter 108 = .ok (.iconst 0, 1) := by decide +kernel
theorem dX7_readLetter_109 : decode cX7_readLetter 109 = .ok (.istore_n 3, 1) := by decide +kernel
theorem dX7_readLetter_110 : decode cX7_readLetter 110 = .ok (.aload_n 0, 1) := by decide +kernel
theorem dX7_readLetter_111 : decode cX7_readLetter 111 = .ok (.getfield 57, 3) := by decide +kernel
theorem dX7_readLetter_114 : decode cX7_readLetter 114 = .ok (.sipush 4800, 3) := by decide +kernel
theorem dX7_readLetter_117 : decode cX7_readLetter 117 = .ok (.iload_n 1, 1) := by decide +kernel
theorem dX7_readLetter_118 : decode cX7_readLetter 118 = .ok (.iadd, 1) := by decide +kernel
theorem dX7_readLetter_119 : decode cX7_readLetter 119 = .ok (.aload_n 0, 1) := by decide +kernel
theorem dX7_readLetter_120 : decode cX7_readLetter 120 = .ok (.getfield 121, 3) := by decide +kernel
theorem dX7_readLetter_123 : decode cX7_readLetter 123 = .ok (.iastore, 1) := by decide +kernel
theorem dX7_readLetter_124 : decode cX7_readLetter 124 = .ok (.aload_n 0, 1) := by decide +kernel
theorem dX7_readLetter_125 : decode cX7_readLetter 125 = .ok (.getfield 60, 3) := by decide +kernel
theorem dX7_readLetter_128 : decode cX7_readLetter 128 = .ok (.sipush 4800, 3) := by decide +kernel
theorem dX7_readLetter_131 : decode cX7_readLetter 131 = .ok (.iload_n 1, 1) := by decide +kernel
theorem dX7_readLetter_132 : decode cX7_readLetter 132 = .ok (.iadd, 1) := by decide +kernel
theorem dX7_readLetter_133 : decode cX7_readLetter 133 = .ok (.aload_n 0, 1) := by decide +kernel
theorem dX7_readLetter_134 : decode cX7_readLetter 134 = .ok (.getfield 114, 3) := by decide +kernel
theorem dX7_readLetter_137 : decode cX7_readLetter 137 = .ok (.iastore, 1) := by decide +kernel
theorem dX7_readLetter_138 : decode cX7_readLetter 138 = .ok (.aload_n 0, 1) := by decide +kernel
theorem dX7_readLetter_139 : decode cX7_readLetter 139 = .ok (.getfield 63, 3) := by decide +kernel
theorem dX7_readLetter_142 : decode cX7_readLetter 142 = .ok (.sipush 4800, 3) := by decide +kernel
theorem dX7_readLetter_145 : decode cX7_readLetter 145 = .ok (.iload_n 1, 1) := by decide +kernel
theorem dX7_readLetter_146 : decode cX7_readLetter 146 = .ok (.iadd, 1) := by decide +kernel
theorem dX7_readLetter_147 : decode cX7_readLetter 147 = .ok (.iload_n 2, 1) := by decide +kernel
theorem dX7_readLetter_148 : decode cX7_readLetter 148 = .ok (.iconst 1, 1) := by decide +kernel
theorem dX7_readLetter_149 : decode cX7_readLetter 149 = .ok (.isub, 1) := by decide +kernel
theorem dX7_readLetter_150 : decode cX7_readLetter 150 = .ok (.iastore, 1) := by decide +kernel
theorem dX7_readLetter_151 : decode cX7_readLetter 151 = .ok (.iinc 1 1, 3) := by decide +kernel
theorem dX7_readLetter_154 : decode cX7_readLetter 154 = .ok (.goto (-148), 3) := by decide +kernel
theorem dX7_readLetter_157 : decode cX7_readLetter 157 = .ok (.aload_n 0, 1) := by decide +kernel
theorem dX7_readLetter_158 : decode cX7_readLetter 158 = .ok (.getfield 48, 3) := by decide +kernel
theorem dX7_readLetter_161 : decode cX7_readLetter 161 = .ok (.bipush 80, 2) := by decide +kernel
theorem dX7_readLetter_163 : decode cX7_readLetter 163 = .ok (.iload_n 2, 1) := by decide +kernel
theorem dX7_readLetter_164 : decode cX7_readLetter 164 = .ok (.iastore, 1) := by decide +kernel
theorem dX7_readLetter_165 : decode cX7_readLetter 165 = .ok (.aload_n 0, 1) := by decide +kernel
theorem dX7_readLetter_166 : decode cX7_readLetter 166 = .ok (.getfield 51, 3) := by decide +kernel
theorem dX7_readLetter_169 : decode cX7_readLetter 169 = .ok (.bipush 80, 2) := by decide +kernel
theorem dX7_readLetter_171 : decode cX7_readLetter 171 = .ok (.iload_n 1, 1) := by decide +kernel
theorem dX7_readLetter_172 : decode cX7_readLetter 172 = .ok (.iastore, 1) := by decide +kernel
theorem dX7_readLetter_173 : decode cX7_readLetter 173 = .ok (.iload_n 1, 1) := by decide +kernel
theorem dX7_readLetter_174 : decode cX7_readLetter 174 = .ok (.ifCond .le 7, 3) := by decide +kernel
theorem dX7_readLetter_177 : decode cX7_readLetter 177 = .ok (.iconst 1, 1) := by decide +kernel
theorem dX7_readLetter_178 : decode cX7_readLetter 178 = .ok (.goto 4, 3) := by decide +kernel
theorem dX7_readLetter_181 : decode cX7_readLetter 181 = .ok (.iconst 0, 1) := by decide +kernel
theorem dX7_readLetter_182 : decode cX7_readLetter 182 = .ok (.ireturn, 1) := by decide +kernel
theorem dX7_fault_0 : decode cX7_fault 0 = .ok (.aload_n 0, 1) := by decide +kernel
theorem dX7_fault_1 : decode cX7_fault 1 = .ok (.iconst 0, 1) := by decide +kernel
theorem dX7_fault_2 : decode cX7_fault 2 = .ok (.putfield 91, 3) := by decide +kernel
theorem dX7_fault_5 : decode cX7_fault 5 = .ok (.aload_n 0, 1) := by decide +kernel
theorem dX7_fault_6 : decode cX7_fault 6 = .ok (.getfield 81, 3) := by decide +kernel
theorem dX7_fault_9 : decode cX7_fault 9 = .ok (.ireturn, 1) := by decide +kernel
theorem dX7_isSame_0 : decode cX7_isSame 0 = .ok (.bipush 60, 2) := by decide +kernel
theorem dX7_isSame_2 : decode cX7_isSame 2 = .ok (.iload_n 1, 1) := by decide +kernel
theorem dX7_isSame_3 : decode cX7_isSame 3 = .ok (.imul, 1) := by decide +kernel
theorem dX7_isSame_4 : decode cX7_isSame 4 = .ok (.iload_n 2, 1) := by decide +kernel
theorem dX7_isSame_5 : decode cX7_isSame 5 = .ok (.iadd, 1) := by decide +kernel
theorem dX7_isSame_6 : decode cX7_isSame 6 = .ok (.istore 4, 2) := by decide +kernel
theorem dX7_isSame_8 : decode cX7_isSame 8 = .ok (.aload_n 0, 1) := by decide +kernel
theorem dX7_isSame_9 : decode cX7_isSame 9 = .ok (.getfield 60, 3) := by decide +kernel
theorem dX7_isSame_12 : decode cX7_isSame 12 = .ok (.iload 4, 2) := by decide +kernel
theorem dX7_isSame_14 : decode cX7_isSame 14 = .ok (.iaload, 1) := by decide +kernel
theorem dX7_isSame_15 : decode cX7_isSame 15 = .ok (.aload_n 0, 1) := by decide +kernel
theorem dX7_isSame_16 : decode cX7_isSame 16 = .ok (.getfield 57, 3) := by decide +kernel
theorem dX7_isSame_19 : decode cX7_isSame 19 = .ok (.iload 4, 2) := by decide +kernel
theorem dX7_isSame_21 : decode cX7_isSame 21 = .ok (.iaload, 1) := by decide +kernel
theorem dX7_isSame_22 : decode cX7_isSame 22 = .ok (.isub, 1) := by decide +kernel
theorem dX7_isSame_23 : decode cX7_isSame 23 = .ok (.aload_n 0, 1) := by decide +kernel
theorem dX7_isSame_24 : decode cX7_isSame 24 = .ok (.getfield 30, 3) := by decide +kernel
theorem dX7_isSame_27 : decode cX7_isSame 27 = .ok (.iload_n 3, 1) := by decide +kernel
theorem dX7_isSame_28 : decode cX7_isSame 28 = .ok (.iaload, 1) := by decide +kernel
theorem dX7_isSame_29 : decode cX7_isSame 29 = .ok (.if_icmp .eq 5, 3) := by decide +kernel
theorem dX7_isSame_32 : decode cX7_isSame 32 = .ok (.iconst 0, 1) := by decide +kernel
theorem dX7_isSame_33 : decode cX7_isSame 33 = .ok (.ireturn, 1) := by decide +kernel
theorem dX7_isSame_34 : decode cX7_isSame 34 = .ok (.iconst 0, 1) := by decide +kernel
theorem dX7_isSame_35 : decode cX7_isSame 35 = .ok (.istore 5, 2) := by decide +kernel
theorem dX7_isSame_37 : decode cX7_isSame 37 = .ok (.iload 5, 2) := by decide +kernel
theorem dX7_isSame_39 : decode cX7_isSame 39 = .ok (.aload_n 0, 1) := by decide +kernel
theorem dX7_isSame_40 : decode cX7_isSame 40 = .ok (.getfield 30, 3) := by decide +kernel
theorem dX7_isSame_43 : decode cX7_isSame 43 = .ok (.iload_n 3, 1) := by decide +kernel
theorem dX7_isSame_44 : decode cX7_isSame 44 = .ok (.iaload, 1) := by decide +kernel
theorem dX7_isSame_45 : decode cX7_isSame 45 = .ok (.if_icmp .ge 47, 3) := by decide +kernel
theorem dX7_isSame_48 : decode cX7_isSame 48 = .ok (.aload_n 0, 1) := by decide +kernel
theorem dX7_isSame_49 : decode cX7_isSame 49 = .ok (.getfield 54, 3) := by decide +kernel
theorem dX7_isSame_52 : decode cX7_isSame 52 = .ok (.sipush 400, 3) := by decide +kernel
theorem dX7_isSame_55 : decode cX7_isSame 55 = .ok (.iload_n 1, 1) := by decide +kernel
theorem dX7_isSame_56 : decode cX7_isSame 56 = .ok (.imul, 1) := by decide +kernel
theorem dX7_isSame_57 : decode cX7_isSame 57 = .ok (.aload_n 0, 1) := by decide +kernel
theorem dX7_isSame_58 : decode cX7_isSame 58 = .ok (.getfield 57, 3) := by decide +kernel
theorem dX7_isSame_61 : decode cX7_isSame 61 = .ok (.iload 4, 2) := by decide +kernel
theorem dX7_isSame_63 : decode cX7_isSame 63 = .ok (.iaload, 1) := by decide +kernel
theorem dX7_isSame_64 : decode cX7_isSame 64 = .ok (.iadd, 1) := by decide +kernel
theorem dX7_isSame_65 : decode cX7_isSame 65 = .ok (.iload 5, 2) := by decide +kernel
theorem dX7_isSame_67 : decode cX7_isSame 67 = .ok (.iadd, 1) := by decide +kernel
theorem dX7_isSame_68 : decode cX7_isSame 68 = .ok (.baload, 1) := by decide +kernel
theorem dX7_isSame_69 : decode cX7_isSame 69 = .ok (.aload_n 0, 1) := by decide +kernel
theorem dX7_isSame_70 : decode cX7_isSame 70 = .ok (.getfield 26, 3) := by decide +kernel
theorem dX7_isSame_73 : decode cX7_isSame 73 = .ok (.bipush 12, 2) := by decide +kernel
theorem dX7_isSame_75 : decode cX7_isSame 75 = .ok (.iload_n 3, 1) := by decide +kernel
theorem dX7_isSame_76 : decode cX7_isSame 76 = .ok (.imul, 1) := by decide +kernel
theorem dX7_isSame_77 : decode cX7_isSame 77 = .ok (.iload 5, 2) := by decide +kernel
theorem dX7_isSame_79 : decode cX7_isSame 79 = .ok (.iadd, 1) := by decide +kernel
theorem dX7_isSame_80 : decode cX7_isSame 80 = .ok (.baload, 1) := by decide +kernel
theorem dX7_isSame_81 : decode cX7_isSame 81 = .ok (.if_icmp .eq 5, 3) := by decide +kernel
theorem dX7_isSame_84 : decode cX7_isSame 84 = .ok (.iconst 0, 1) := by decide +kernel
theorem dX7_isSame_85 : decode cX7_isSame 85 = .ok (.ireturn, 1) := by decide +kernel
theorem dX7_isSame_86 : decode cX7_isSame 86 = .ok (.iinc 5 1, 3) := by decide +kernel
theorem dX7_isSame_89 : decode cX7_isSame 89 = .ok (.goto (-52), 3) := by decide +kernel
theorem dX7_isSame_92 : decode cX7_isSame 92 = .ok (.iconst 1, 1) := by decide +kernel
theorem dX7_isSame_93 : decode cX7_isSame 93 = .ok (.ireturn, 1) := by decide +kernel
theorem dX7_hasWord_0 : decode cX7_hasWord 0 = .ok (.iconst 0, 1) := by decide +kernel
theorem dX7_hasWord_1 : decode cX7_hasWord 1 = .ok (.istore 4, 2) := by decide +kernel
theorem dX7_hasWord_3 : decode cX7_hasWord 3 = .ok (.iconst 0, 1) := by decide +kernel
theorem dX7_hasWord_4 : decode cX7_hasWord 4 = .ok (.istore 5, 2) := by decide +kernel
theorem dX7_hasWord_6 : decode cX7_hasWord 6 = .ok (.iload 5, 2) := by decide +kernel
theorem dX7_hasWord_8 : decode cX7_hasWord 8 = .ok (.aload_n 0, 1) := by decide +kernel
theorem dX7_hasWord_9 : decode cX7_hasWord 9 = .ok (.getfield 51, 3) := by decide +kernel
theorem dX7_hasWord_12 : decode cX7_hasWord 12 = .ok (.iload_n 1, 1) := by decide +kernel
theorem dX7_hasWord_13 : decode cX7_hasWord 13 = .ok (.iaload, 1) := by decide +kernel
theorem dX7_hasWord_14 : decode cX7_hasWord 14 = .ok (.if_icmp .ge 48, 3) := by decide +kernel
theorem dX7_hasWord_17 : decode cX7_hasWord 17 = .ok (.iload 4, 2) := by decide +kernel
theorem dX7_hasWord_19 : decode cX7_hasWord 19 = .ok (.ifCond .ne 43, 3) := by decide +kernel
theorem dX7_hasWord_22 : decode cX7_hasWord 22 = .ok (.aload_n 0, 1) := by decide +kernel
theorem dX7_hasWord_23 : decode cX7_hasWord 23 = .ok (.getfield 63, 3) := by decide +kernel
theorem dX7_hasWord_26 : decode cX7_hasWord 26 = .ok (.bipush 60, 2) := by decide +kernel
theorem dX7_hasWord_28 : decode cX7_hasWord 28 = .ok (.iload_n 1, 1) := by decide +kernel
theorem dX7_hasWord_29 : decode cX7_hasWord 29 = .ok (.imul, 1) := by decide +kernel
theorem dX7_hasWord_30 : decode cX7_hasWord 30 = .ok (.iload 5, 2) := by decide +kernel
theorem dX7_hasWord_32 : decode cX7_hasWord 32 = .ok (.iadd, 1) := by decide +kernel
theorem dX7_hasWord_33 : decode cX7_hasWord 33 = .ok (.iaload, 1) := by decide +kernel
theorem dX7_hasWord_34 : decode cX7_hasWord 34 = .ok (.iload_n 2, 1) := by decide +kernel
theorem dX7_hasWord_35 : decode cX7_hasWord 35 = .ok (.if_icmp .ne 18, 3) := by decide +kernel
theorem dX7_hasWord_38 : decode cX7_hasWord 38 = .ok (.aload_n 0, 1) := by decide +kernel
theorem dX7_hasWord_39 : decode cX7_hasWord 39 = .ok (.iload_n 1, 1) := by decide +kernel
theorem dX7_hasWord_40 : decode cX7_hasWord 40 = .ok (.iload 5, 2) := by decide +kernel
theorem dX7_hasWord_42 : decode cX7_hasWord 42 = .ok (.iload_n 3, 1) := by decide +kernel
theorem dX7_hasWord_43 : decode cX7_hasWord 43 = .ok (.invokevirtual 157, 3) := by decide +kernel
theorem dX7_hasWord_46 : decode cX7_hasWord 46 = .ok (.ifCond .eq 7, 3) := by decide +kernel
theorem dX7_hasWord_49 : decode cX7_hasWord 49 = .ok (.iconst 1, 1) := by decide +kernel
theorem dX7_hasWord_50 : decode cX7_hasWord 50 = .ok (.goto 4, 3) := by decide +kernel
theorem dX7_hasWord_53 : decode cX7_hasWord 53 = .ok (.iconst 0, 1) := by decide +kernel
theorem dX7_hasWord_54 : decode cX7_hasWord 54 = .ok (.istore 4, 2) := by decide +kernel
theorem dX7_hasWord_56 : decode cX7_hasWord 56 = .ok (.iinc 5 1, 3) := by decide +kernel
theorem dX7_hasWord_59 : decode cX7_hasWord 59 = .ok (.goto (-53), 3) := by decide +kernel
theorem dX7_hasWord_62 : decode cX7_hasWord 62 = .ok (.iload 4, 2) := by decide +kernel
theorem dX7_hasWord_64 : decode cX7_hasWord 64 = .ok (.ireturn, 1) := by decide +kernel
theorem dX7_fits_0 : decode cX7_fits 0 = .ok (.iconst 1, 1) := by decide +kernel
theorem dX7_fits_1 : decode cX7_fits 1 = .ok (.istore 4, 2) := by decide +kernel
theorem dX7_fits_3 : decode cX7_fits 3 = .ok (.bipush 12, 2) := by decide +kernel
theorem dX7_fits_5 : decode cX7_fits 5 = .ok (.iload_n 1, 1) := by decide +kernel
theorem dX7_fits_6 : decode cX7_fits 6 = .ok (.imul, 1) := by decide +kernel
theorem dX7_fits_7 : decode cX7_fits 7 = .ok (.istore 5, 2) := by decide +kernel
theorem dX7_fits_9 : decode cX7_fits 9 = .ok (.iload 5, 2) := by decide +kernel
theorem dX7_fits_11 : decode cX7_fits 11 = .ok (.bipush 12, 2) := by decide +kernel
theorem dX7_fits_13 : decode cX7_fits 13 = .ok (.iload_n 1, 1) := by decide +kernel
theorem dX7_fits_14 : decode cX7_fits 14 = .ok (.imul, 1) := by decide +kernel
theorem dX7_fits_15 : decode cX7_fits 15 = .ok (.aload_n 0, 1) := by decide +kernel
theorem dX7_fits_16 : decode cX7_fits 16 = .ok (.getfield 23, 3) := by decide +kernel
theorem dX7_fits_19 : decode cX7_fits 19 = .ok (.iload_n 1, 1) := by decide +kernel
theorem dX7_fits_20 : decode cX7_fits 20 = .ok (.iaload, 1) := by decide +kernel
theorem dX7_fits_21 : decode cX7_fits 21 = .ok (.iadd, 1) := by decide +kernel
theorem dX7_fits_22 : decode cX7_fits 22 = .ok (.if_icmp .ge 59, 3) := by decide +kernel
theorem dX7_fits_25 : decode cX7_fits 25 = .ok (.aload_n 0, 1) := by decide +kernel
theorem dX7_fits_26 : decode cX7_fits 26 = .ok (.getfield 36, 3) := by decide +kernel
theorem dX7_fits_29 : decode cX7_fits 29 = .ok (.iload 5, 2) := by decide +kernel
theorem dX7_fits_31 : decode cX7_fits 31 = .ok (.baload, 1) := by decide +kernel
theorem dX7_fits_32 : decode cX7_fits 32 = .ok (.ifCond .eq 13, 3) := by decide +kernel
theorem dX7_fits_35 : decode cX7_fits 35 = .ok (.iload 4, 2) := by decide +kernel
theorem dX7_fits_37 : decode cX7_fits 37 = .ok (.ifCond .eq 5, 3) := by decide +kernel
theorem dX7_fits_40 : decode cX7_fits 40 = .ok (.iconst 1, 1) := by decide +kernel
theorem dX7_fits_41 : decode cX7_fits 41 = .ok (.ireturn, 1) := by decide +kernel
theorem dX7_fits_42 : decode cX7_fits 42 = .ok (.iconst 1, 1) := by decide +kernel
theorem dX7_fits_43 : decode cX7_fits 43 = .ok (.istore 4, 2) := by decide +kernel
theorem dX7_fits_45 : decode cX7_fits 45 = .ok (.iload 4, 2) := by decide +kernel
theorem dX7_fits_47 : decode cX7_fits 47 = .ok (.ifCond .eq 25, 3) := by decide +kernel
theorem dX7_fits_50 : decode cX7_fits 50 = .ok (.aload_n 0, 1) := by decide +kernel
theorem dX7_fits_51 : decode cX7_fits 51 = .ok (.iload_n 2, 1) := by decide +kernel
theorem dX7_fits_52 : decode cX7_fits 52 = .ok (.iload_n 3, 1) := by decide +kernel
theorem dX7_fits_53 : decode cX7_fits 53 = .ok (.iload 5, 2) := by decide +kernel
theorem dX7_fits_55 : decode cX7_fits 55 = .ok (.invokevirtual 160, 3) := by decide +kernel
theorem dX7_fits_58 : decode cX7_fits 58 = .ok (.aload_n 0, 1) := by decide +kernel
theorem dX7_fits_59 : decode cX7_fits 59 = .ok (.getfield 33, 3) := by decide +kernel
theorem dX7_fits_62 : decode cX7_fits 62 = .ok (.iload 5, 2) := by decide +kernel
theorem dX7_fits_64 : decode cX7_fits 64 = .ok (.baload, 1) := by decide +kernel
theorem dX7_fits_65 : decode cX7_fits 65 = .ok (.if_icmp .eq 7, 3) := by decide +kernel
theorem dX7_fits_68 : decode cX7_fits 68 = .ok (.iconst 1, 1) := by decide +kernel
theorem dX7_fits_69 : decode cX7_fits 69 = .ok (.goto 4, 3) := by decide +kernel
theorem dX7_fits_72 : decode cX7_fits 72 = .ok (.iconst 0, 1) := by decide +kernel
theorem dX7_fits_73 : decode cX7_fits 73 = .ok (.istore 4, 2) := by decide +kernel
theorem dX7_fits_75 : decode cX7_fits 75 = .ok (.iinc 5 1, 3) := by decide +kernel
theorem dX7_fits_78 : decode cX7_fits 78 = .ok (.goto (-69), 3) := by decide +kernel
theorem dX7_fits_81 : decode cX7_fits 81 = .ok (.iload 4, 2) := by decide +kernel
theorem dX7_fits_83 : decode cX7_fits 83 = .ok (.ireturn, 1) := by decide +kernel
theorem dX7_below_0 : decode cX7_below 0 = .ok (.iconst 0, 1) := by decide +kernel
theorem dX7_below_1 : decode cX7_below 1 = .ok (.istore 4, 2) := by decide +kernel
theorem dX7_below_3 : decode cX7_below 3 = .ok (.iload 4, 2) := by decide +kernel
theorem dX7_below_5 : decode cX7_below 5 = .ok (.aload_n 0, 1) := by decide +kernel
theorem dX7_below_6 : decode cX7_below 6 = .ok (.getfield 94, 3) := by decide +kernel
theorem dX7_below_9 : decode cX7_below 9 = .ok (.if_icmp .ge 34, 3) := by decide +kernel
theorem dX7_below_12 : decode cX7_below 12 = .ok (.aload_n 0, 1) := by decide +kernel
theorem dX7_below_13 : decode cX7_below 13 = .ok (.getfield 9, 3) := by decide +kernel
theorem dX7_below_16 : decode cX7_below 16 = .ok (.iload 4, 2) := by decide +kernel
theorem dX7_below_18 : decode cX7_below 18 = .ok (.iaload, 1) := by decide +kernel
theorem dX7_below_19 : decode cX7_below 19 = .ok (.iload_n 1, 1) := by decide +kernel
theorem dX7_below_20 : decode cX7_below 20 = .ok (.if_icmp .ne 17, 3) := by decide +kernel
theorem dX7_below_23 : decode cX7_below 23 = .ok (.aload_n 0, 1) := by decide +kernel
theorem dX7_below_24 : decode cX7_below 24 = .ok (.iload 4, 2) := by decide +kernel
theorem dX7_below_26 : decode cX7_below 26 = .ok (.iload_n 2, 1) := by decide +kernel
theorem dX7_below_27 : decode cX7_below 27 = .ok (.iload_n 3, 1) := by decide +kernel
theorem dX7_below_28 : decode cX7_below 28 = .ok (.invokevirtual 163, 3) := by decide +kernel
theorem dX7_below_31 : decode cX7_below 31 = .ok (.ifCond .eq 6, 3) := by decide +kernel
theorem dX7_below_34 : decode cX7_below 34 = .ok (.iload 4, 2) := by decide +kernel
theorem dX7_below_36 : decode cX7_below 36 = .ok (.ireturn, 1) := by decide +kernel
theorem dX7_below_37 : decode cX7_below 37 = .ok (.iinc 4 1, 3) := by decide +kernel
theorem dX7_below_40 : decode cX7_below 40 = .ok (.goto (-37), 3) := by decide +kernel
theorem dX7_below_43 : decode cX7_below 43 = .ok (.iconst (-1), 1) := by decide +kernel
theorem dX7_below_44 : decode cX7_below 44 = .ok (.ireturn, 1) := by decide +kernel
theorem dX7_sorted_0 : decode cX7_sorted 0 = .ok (.iconst (-1), 1) := by decide +kernel
theorem dX7_sorted_1 : decode cX7_sorted 1 = .ok (.istore_n 3, 1) := by decide +kernel
theorem dX7_sorted_2 : decode cX7_sorted 2 = .ok (.aload_n 0, 1) := by decide +kernel
theorem dX7_sorted_3 : decode cX7_sorted 3 = .ok (.iconst (-1), 1) := by decide +kernel
theorem dX7_sorted_4 : decode cX7_sorted 4 = .ok (.iload_n 1, 1) := by decide +kernel
theorem dX7_sorted_5 : decode cX7_sorted 5 = .ok (.iload_n 2, 1) := by decide +kernel
theorem dX7_sorted_6 : decode cX7_sorted 6 = .ok (.invokevirtual 166, 3) := by decide +kernel
theorem dX7_sorted_9 : decode cX7_sorted 9 = .ok (.istore 4, 2) := by decide +kernel
theorem dX7_sorted_11 : decode cX7_sorted 11 = .ok (.iload 4, 2) := by decide +kernel
theorem dX7_sorted_13 : decode cX7_sorted 13 = .ok (.ifCond .lt 18, 3) := by decide +kernel
theorem dX7_sorted_16 : decode cX7_sorted 16 = .ok (.iload 4, 2) := by decide +kernel
theorem dX7_sorted_18 : decode cX7_sorted 18 = .ok (.istore_n 3, 1) := by decide +kernel
theorem dX7_sorted_19 : decode cX7_sorted 19 = .ok (.aload_n 0, 1) := by decide +kernel
theorem dX7_sorted_20 : decode cX7_sorted 20 = .ok (.iload_n 3, 1) := by decide +kernel
theorem dX7_sorted_21 : decode cX7_sorted 21 = .ok (.iload_n 1, 1) := by decide +kernel
theorem dX7_sorted_22 : decode cX7_sorted 22 = .ok (.iload_n 2, 1) := by decide +kernel
theorem dX7_sorted_23 : decode cX7_sorted 23 = .ok (.invokevirtual 166, 3) := by decide +kernel
theorem dX7_sorted_26 : decode cX7_sorted 26 = .ok (.istore 4, 2) := by decide +kernel
theorem dX7_sorted_28 : decode cX7_sorted 28 = .ok (.goto (-17), 3) := by decide +kernel
theorem dX7_sorted_31 : decode cX7_sorted 31 = .ok (.iload_n 3, 1) := by decide +kernel
theorem dX7_sorted_32 : decode cX7_sorted 32 = .ok (.ireturn, 1) := by decide +kernel
theorem dX7_puts_0 : decode cX7_puts 0 = .ok (.aload_n 0, 1) := by decide +kernel
theorem dX7_puts_1 : decode cX7_puts 1 = .ok (.getfield 66, 3) := by decide +kernel
theorem dX7_puts_4 : decode cX7_puts 4 = .ok (.bipush 6, 2) := by decide +kernel
theorem dX7_puts_6 : decode cX7_puts 6 = .ok (.iload_n 1, 1) := by decide +kernel
theorem dX7_puts_7 : decode cX7_puts 7 = .ok (.imul, 1) := by decide +kernel
theorem dX7_puts_8 : decode cX7_puts 8 = .ok (.iload_n 2, 1) := by decide +kernel
theorem dX7_puts_9 : decode cX7_puts 9 = .ok (.iadd, 1) := by decide +kernel
theorem dX7_puts_10 : decode cX7_puts 10 = .ok (.iload_n 3, 1) := by decide +kernel
theorem dX7_puts_11 : decode cX7_puts 11 = .ok (.iastore, 1) := by decide +kernel
theorem dX7_puts_12 : decode cX7_puts 12 = .ok (.aload_n 0, 1) := by decide +kernel
theorem dX7_puts_13 : decode cX7_puts 13 = .ok (.getfield 69, 3) := by decide +kernel
theorem dX7_puts_16 : decode cX7_puts 16 = .ok (.bipush 6, 2) := by decide +kernel
theorem dX7_puts_18 : decode cX7_puts 18 = .ok (.iload_n 1, 1) := by decide +kernel
theorem dX7_puts_19 : decode cX7_puts 19 = .ok (.imul, 1) := by decide +kernel
theorem dX7_puts_20 : decode cX7_puts 20 = .ok (.iload_n 2, 1) := by decide +kernel
theorem dX7_puts_21 : decode cX7_puts 21 = .ok (.iadd, 1) := by decide +kernel
theorem dX7_puts_22 : decode cX7_puts 22 = .ok (.iload_n 3, 1) := by decide +kernel
theorem dX7_puts_23 : decode cX7_puts 23 = .ok (.ifCond .ge 7, 3) := by decide +kernel
theorem dX7_puts_26 : decode cX7_puts 26 = .ok (.iconst (-1), 1) := by decide +kernel
theorem dX7_puts_27 : decode cX7_puts 27 = .ok (.goto 16, 3) := by decide +kernel
theorem dX7_puts_30 : decode cX7_puts 30 = .ok (.aload_n 0, 1) := by decide +kernel
theorem dX7_puts_31 : decode cX7_puts 31 = .ok (.getfield 45, 3) := by decide +kernel
theorem dX7_puts_34 : decode cX7_puts 34 = .ok (.iload_n 1, 1) := by decide +kernel
theorem dX7_puts_35 : decode cX7_puts 35 = .ok (.iaload, 1) := by decide +kernel
theorem dX7_puts_36 : decode cX7_puts 36 = .ok (.aload_n 0, 1) := by decide +kernel
theorem dX7_puts_37 : decode cX7_puts 37 = .ok (.getfield 16, 3) := by decide +kernel
theorem dX7_puts_40 : decode cX7_puts 40 = .ok (.iload_n 3, 1) := by decide +kernel
theorem dX7_puts_41 : decode cX7_puts 41 = .ok (.iaload, 1) := by decide +kernel
theorem dX7_puts_42 : decode cX7_puts 42 = .ok (.iadd, 1) := by decide +kernel
theorem dX7_puts_43 : decode cX7_puts 43 = .ok (.iastore, 1) := by decide +kernel
theorem dX7_puts_44 : decode cX7_puts 44 = .ok (.return_, 1) := by decide +kernel
theorem dX7_cause_0 : decode cX7_cause 0 = .ok (.aload_n 0, 1) := by decide +kernel
theorem dX7_cause_1 : decode cX7_cause 1 = .ok (.invokevirtual 170, 3) := by decide +kernel
theorem dX7_cause_4 : decode cX7_cause 4 = .ok (.aload_n 0, 1) := by decide +kernel
theorem dX7_cause_5 : decode cX7_cause 5 = .ok (.iload_n 1, 1) := by decide +kernel
theorem dX7_cause_6 : decode cX7_cause 6 = .ok (.iconst (-1), 1) := by decide +kernel
theorem dX7_cause_7 : decode cX7_cause 7 = .ok (.if_icmp .eq 11, 3) := by decide +kernel
theorem dX7_cause_10 : decode cX7_cause 10 = .ok (.aload_n 0, 1) := by decide +kernel
theorem dX7_cause_11 : decode cX7_cause 11 = .ok (.iload_n 1, 1) := by decide +kernel
theorem dX7_cause_12 : decode cX7_cause 12 = .ok (.invokevirtual 173, 3) := by decide +kernel
theorem dX7_cause_15 : decode cX7_cause 15 = .ok (.ifCond .ne 10, 3) := by decide +kernel
theorem dX7_cause_18 : decode cX7_cause 18 = .ok (.iload_n 2, 1) := by decide +kernel
theorem dX7_cause_19 : decode cX7_cause 19 = .ok (.invokestatic 176, 3) := by decide +kernel
theorem dX7_cause_22 : decode cX7_cause 22 = .ok (.ifCond .eq 7, 3) := by decide +kernel
theorem dX7_cause_25 : decode cX7_cause 25 = .ok (.iconst 1, 1) := by decide +kernel
theorem dX7_cause_26 : decode cX7_cause 26 = .ok (.goto 4, 3) := by decide +kernel
theorem dX7_cause_29 : decode cX7_cause 29 = .ok (.iconst 0, 1) := by decide +kernel
theorem dX7_cause_30 : decode cX7_cause 30 = .ok (.iconst 1, 1) := by decide +kernel
theorem dX7_cause_31 : decode cX7_cause 31 = .ok (.invokevirtual 179, 3) := by decide +kernel
theorem dX7_cause_34 : decode cX7_cause 34 = .ok (.ifCond .ne 26, 3) := by decide +kernel
theorem dX7_cause_37 : decode cX7_cause 37 = .ok (.aload_n 0, 1) := by decide +kernel
theorem dX7_cause_38 : decode cX7_cause 38 = .ok (.iload_n 3, 1) := by decide +kernel
theorem dX7_cause_39 : decode cX7_cause 39 = .ok (.iconst 0, 1) := by decide +kernel
theorem dX7_cause_40 : decode cX7_cause 40 = .ok (.bipush 60, 2) := by decide +kernel
theorem dX7_cause_42 : decode cX7_cause 42 = .ok (.invokestatic 97, 3) := by decide +kernel
theorem dX7_cause_45 : decode cX7_cause 45 = .ok (.ifCond .ne 7, 3) := by decide +kernel
theorem dX7_cause_48 : decode cX7_cause 48 = .ok (.iconst 1, 1) := by decide +kernel
theorem dX7_cause_49 : decode cX7_cause 49 = .ok (.goto 4, 3) := by decide +kernel
theorem dX7_cause_52 : decode cX7_cause 52 = .ok (.iconst 0, 1) := by decide +kernel
theorem dX7_cause_53 : decode cX7_cause 53 = .ok (.iconst 2, 1) := by decide +kernel
theorem dX7_cause_54 : decode cX7_cause 54 = .ok (.invokevirtual 179, 3) := by decide +kernel
theorem dX7_cause_57 : decode cX7_cause 57 = .ok (.ifCond .eq 5, 3) := by decide +kernel
theorem dX7_cause_60 : decode cX7_cause 60 = .ok (.iconst 0, 1) := by decide +kernel
theorem dX7_cause_61 : decode cX7_cause 61 = .ok (.ireturn, 1) := by decide +kernel
theorem dX7_cause_62 : decode cX7_cause 62 = .ok (.aload_n 0, 1) := by decide +kernel
theorem dX7_cause_63 : decode cX7_cause 63 = .ok (.aload_n 0, 1) := by decide +kernel
theorem dX7_cause_64 : decode cX7_cause 64 = .ok (.invokevirtual 183, 3) := by decide +kernel
theorem dX7_cause_67 : decode cX7_cause 67 = .ok (.ifCond .ne 7, 3) := by decide +kernel
theorem dX7_cause_70 : decode cX7_cause 70 = .ok (.iconst 1, 1) := by decide +kernel
theorem dX7_cause_71 : decode cX7_cause 71 = .ok (.goto 4, 3) := by decide +kernel
theorem dX7_cause_74 : decode cX7_cause 74 = .ok (.iconst 0, 1) := by decide +kernel
theorem dX7_cause_75 : decode cX7_cause 75 = .ok (.iconst 2, 1) := by decide +kernel
theorem dX7_cause_76 : decode cX7_cause 76 = .ok (.invokevirtual 179, 3) := by decide +kernel
theorem dX7_cause_79 : decode cX7_cause 79 = .ok (.ifCond .ne 25, 3) := by decide +kernel
theorem dX7_cause_82 : decode cX7_cause 82 = .ok (.aload_n 0, 1) := by decide +kernel
theorem dX7_cause_83 : decode cX7_cause 83 = .ok (.aload_n 0, 1) := by decide +kernel
theorem dX7_cause_84 : decode cX7_cause 84 = .ok (.getfield 94, 3) := by decide +kernel
theorem dX7_cause_87 : decode cX7_cause 87 = .ok (.bipush 12, 2) := by decide +kernel
theorem dX7_cause_89 : decode cX7_cause 89 = .ok (.if_icmp .ne 7, 3) := by decide +kernel
theorem dX7_cause_92 : decode cX7_cause 92 = .ok (.iconst 1, 1) := by decide +kernel
theorem dX7_cause_93 : decode cX7_cause 93 = .ok (.goto 4, 3) := by decide +kernel
theorem dX7_cause_96 : decode cX7_cause 96 = .ok (.iconst 0, 1) := by decide +kernel
theorem dX7_cause_97 : decode cX7_cause 97 = .ok (.iconst 3, 1) := by decide +kernel
theorem dX7_cause_98 : decode cX7_cause 98 = .ok (.invokevirtual 179, 3) := by decide +kernel
theorem dX7_cause_101 : decode cX7_cause 101 = .ok (.ifCond .eq 5, 3) := by decide +kernel
theorem dX7_cause_104 : decode cX7_cause 104 = .ok (.iconst 0, 1) := by decide +kernel
theorem dX7_cause_105 : decode cX7_cause 105 = .ok (.ireturn, 1) := by decide +kernel
theorem dX7_cause_106 : decode cX7_cause 106 = .ok (.aload_n 0, 1) := by decide +kernel
theorem dX7_cause_107 : decode cX7_cause 107 = .ok (.getfield 9, 3) := by decide +kernel
theorem dX7_cause_110 : decode cX7_cause 110 = .ok (.aload_n 0, 1) := by decide +kernel
theorem dX7_cause_111 : decode cX7_cause 111 = .ok (.getfield 94, 3) := by decide +kernel
theorem dX7_cause_114 : decode cX7_cause 114 = .ok (.iload_n 1, 1) := by decide +kernel
theorem dX7_cause_115 : decode cX7_cause 115 = .ok (.iastore, 1) := by decide +kernel
theorem dX7_cause_116 : decode cX7_cause 116 = .ok (.aload_n 0, 1) := by decide +kernel
theorem dX7_cause_117 : decode cX7_cause 117 = .ok (.getfield 13, 3) := by decide +kernel
theorem dX7_cause_120 : decode cX7_cause 120 = .ok (.aload_n 0, 1) := by decide +kernel
theorem dX7_cause_121 : decode cX7_cause 121 = .ok (.getfield 94, 3) := by decide +kernel
theorem dX7_cause_124 : decode cX7_cause 124 = .ok (.iload_n 2, 1) := by decide +kernel
theorem dX7_cause_125 : decode cX7_cause 125 = .ok (.iastore, 1) := by decide +kernel
theorem dX7_cause_126 : decode cX7_cause 126 = .ok (.aload_n 0, 1) := by decide +kernel
theorem dX7_cause_127 : decode cX7_cause 127 = .ok (.getfield 16, 3) := by decide +kernel
theorem dX7_cause_130 : decode cX7_cause 130 = .ok (.aload_n 0, 1) := by decide +kernel
theorem dX7_cause_131 : decode cX7_cause 131 = .ok (.getfield 94, 3) := by decide +kernel
theorem dX7_cause_134 : decode cX7_cause 134 = .ok (.iload_n 3, 1) := by decide +kernel
theorem dX7_cause_135 : decode cX7_cause 135 = .ok (.iastore, 1) := by decide +kernel
theorem dX7_cause_136 : decode cX7_cause 136 = .ok (.aload_n 0, 1) := by decide +kernel
theorem dX7_cause_137 : decode cX7_cause 137 = .ok (.getfield 19, 3) := by decide +kernel
theorem dX7_cause_140 : decode cX7_cause 140 = .ok (.aload_n 0, 1) := by decide +kernel
theorem dX7_cause_141 : decode cX7_cause 141 = .ok (.getfield 94, 3) := by decide +kernel
theorem dX7_cause_144 : decode cX7_cause 144 = .ok (.iload 4, 2) := by decide +kernel
theorem dX7_cause_146 : decode cX7_cause 146 = .ok (.bastore, 1) := by decide +kernel
theorem dX7_cause_147 : decode cX7_cause 147 = .ok (.aload_n 0, 1) := by decide +kernel
theorem dX7_cause_148 : decode cX7_cause 148 = .ok (.aload_n 0, 1) := by decide +kernel
theorem dX7_cause_149 : decode cX7_cause 149 = .ok (.getfield 94, 3) := by decide +kernel
theorem dX7_cause_152 : decode cX7_cause 152 = .ok (.invokevirtual 186, 3) := by decide +kernel
theorem dX7_cause_155 : decode cX7_cause 155 = .ok (.aload_n 0, 1) := by decide +kernel
theorem dX7_cause_156 : decode cX7_cause 156 = .ok (.dup, 1) := by decide +kernel
theorem dX7_cause_157 : decode cX7_cause 157 = .ok (.getfield 94, 3) := by decide +kernel
theorem dX7_cause_160 : decode cX7_cause 160 = .ok (.iconst 1, 1) := by decide +kernel
theorem dX7_cause_161 : decode cX7_cause 161 = .ok (.iadd, 1) := by decide +kernel
theorem dX7_cause_162 : decode cX7_cause 162 = .ok (.putfield 94, 3) := by decide +kernel
theorem dX7_cause_165 : decode cX7_cause 165 = .ok (.aload_n 0, 1) := by decide +kernel
theorem dX7_cause_166 : decode cX7_cause 166 = .ok (.getfield 94, 3) := by decide +kernel
theorem dX7_cause_169 : decode cX7_cause 169 = .ok (.iconst 1, 1) := by decide +kernel
theorem dX7_cause_170 : decode cX7_cause 170 = .ok (.isub, 1) := by decide +kernel
theorem dX7_cause_171 : decode cX7_cause 171 = .ok (.ireturn, 1) := by decide +kernel
theorem dX7_pattern_0 : decode cX7_pattern 0 = .ok (.aload_n 0, 1) := by decide +kernel
theorem dX7_pattern_1 : decode cX7_pattern 1 = .ok (.invokevirtual 170, 3) := by decide +kernel
theorem dX7_pattern_4 : decode cX7_pattern 4 = .ok (.aload_n 0, 1) := by decide +kernel
theorem dX7_pattern_5 : decode cX7_pattern 5 = .ok (.aload_n 0, 1) := by decide +kernel
theorem dX7_pattern_6 : decode cX7_pattern 6 = .ok (.iload_n 1, 1) := by decide +kernel
theorem dX7_pattern_7 : decode cX7_pattern 7 = .ok (.invokevirtual 173, 3) := by decide +kernel
theorem dX7_pattern_10 : decode cX7_pattern 10 = .ok (.iconst 1, 1) := by decide +kernel
theorem dX7_pattern_11 : decode cX7_pattern 11 = .ok (.invokevirtual 179, 3) := by decide +kernel
theorem dX7_pattern_14 : decode cX7_pattern 14 = .ok (.ifCond .ne 23, 3) := by decide +kernel
theorem dX7_pattern_17 : decode cX7_pattern 17 = .ok (.aload_n 0, 1) := by decide +kernel
theorem dX7_pattern_18 : decode cX7_pattern 18 = .ok (.aload_n 0, 1) := by decide +kernel
theorem dX7_pattern_19 : decode cX7_pattern 19 = .ok (.invokevirtual 183, 3) := by decide +kernel
theorem dX7_pattern_22 : decode cX7_pattern 22 = .ok (.ifCond .ne 7, 3) := by decide +kernel
theorem dX7_pattern_25 : decode cX7_pattern 25 = .ok (.iconst 1, 1) := by decide +kernel
theorem dX7_pattern_26 : decode cX7_pattern 26 = .ok (.goto 4, 3) := by decide +kernel
theorem dX7_pattern_29 : decode cX7_pattern 29 = .ok (.iconst 0, 1) := by decide +kernel
theorem dX7_pattern_30 : decode cX7_pattern 30 = .ok (.iconst 2, 1) := by decide +kernel
theorem dX7_pattern_31 : decode cX7_pattern 31 = .ok (.invokevirtual 179, 3) := by decide +kernel
theorem dX7_pattern_34 : decode cX7_pattern 34 = .ok (.ifCond .eq 5, 3) := by decide +kernel
theorem dX7_pattern_37 : decode cX7_pattern 37 = .ok (.iconst 0, 1) := by decide +kernel
theorem dX7_pattern_38 : decode cX7_pattern 38 = .ok (.ireturn, 1) := by decide +kernel
theorem dX7_pattern_39 : decode cX7_pattern 39 = .ok (.aload_n 0, 1) := by decide +kernel
theorem dX7_pattern_40 : decode cX7_pattern 40 = .ok (.iload_n 1, 1) := by decide +kernel
theorem dX7_pattern_41 : decode cX7_pattern 41 = .ok (.invokevirtual 186, 3) := by decide +kernel
theorem dX7_pattern_44 : decode cX7_pattern 44 = .ok (.iconst 0, 1) := by decide +kernel
theorem dX7_pattern_45 : decode cX7_pattern 45 = .ok (.istore_n 2, 1) := by decide +kernel
theorem dX7_pattern_46 : decode cX7_pattern 46 = .ok (.iconst 0, 1) := by decide +kernel
theorem dX7_pattern_47 : decode cX7_pattern 47 = .ok (.istore_n 3, 1) := by decide +kernel
theorem dX7_pattern_48 : decode cX7_pattern 48 = .ok (.iload_n 3, 1) := by decide +kernel
theorem dX7_pattern_49 : decode cX7_pattern 49 = .ok (.aload_n 0, 1) := by decide +kernel
theorem dX7_pattern_50 : decode cX7_pattern 50 = .ok (.getfield 101, 3) := by decide +kernel
theorem dX7_pattern_53 : decode cX7_pattern 53 = .ok (.if_icmp .ge 88, 3) := by decide +kernel
theorem dX7_pattern_56 : decode cX7_pattern 56 = .ok (.iconst 0, 1) := by decide +kernel
theorem dX7_pattern_57 : decode cX7_pattern 57 = .ok (.istore 4, 2) := by decide +kernel
theorem dX7_pattern_59 : decode cX7_pattern 59 = .ok (.iload 4, 2) := by decide +kernel
theorem dX7_pattern_61 : decode cX7_pattern 61 = .ok (.aload_n 0, 1) := by decide +kernel
theorem dX7_pattern_62 : decode cX7_pattern 62 = .ok (.getfield 48, 3) := by decide +kernel
theorem dX7_pattern_65 : decode cX7_pattern 65 = .ok (.iload_n 3, 1) := by decide +kernel
theorem dX7_pattern_66 : decode cX7_pattern 66 = .ok (.iaload, 1) := by decide +kernel
theorem dX7_pattern_67 : decode cX7_pattern 67 = .ok (.if_icmp .ge 68, 3) := by decide +kernel
theorem dX7_pattern_70 : decode cX7_pattern 70 = .ok (.aload_n 0, 1) := by decide +kernel
theorem dX7_pattern_71 : decode cX7_pattern 71 = .ok (.getfield 72, 3) := by decide +kernel
theorem dX7_pattern_74 : decode cX7_pattern 74 = .ok (.bipush 6, 2) := by decide +kernel
theorem dX7_pattern_76 : decode cX7_pattern 76 = .ok (.iload_n 3, 1) := by decide +kernel
theorem dX7_pattern_77 : decode cX7_pattern 77 = .ok (.imul, 1) := by decide +kernel
theorem dX7_pattern_78 : decode cX7_pattern 78 = .ok (.iload 4, 2) := by decide +kernel
theorem dX7_pattern_80 : decode cX7_pattern 80 = .ok (.iadd, 1) := by decide +kernel
theorem dX7_pattern_81 : decode cX7_pattern 81 = .ok (.iaload, 1) := by decide +kernel
theorem dX7_pattern_82 : decode cX7_pattern 82 = .ok (.ifCond .lt 6, 3) := by decide +kernel
theorem dX7_pattern_85 : decode cX7_pattern 85 = .ok (.goto 44, 3) := by decide +kernel
theorem dX7_pattern_88 : decode cX7_pattern 88 = .ok (.aload_n 0, 1) := by decide +kernel
theorem dX7_pattern_89 : decode cX7_pattern 89 = .ok (.iload_n 3, 1) := by decide +kernel
theorem dX7_pattern_90 : decode cX7_pattern 90 = .ok (.iload 4, 2) := by decide +kernel
theorem dX7_pattern_92 : decode cX7_pattern 92 = .ok (.invokevirtual 190, 3) := by decide +kernel
theorem dX7_pattern_95 : decode cX7_pattern 95 = .ok (.istore 5, 2) := by decide +kernel
theorem dX7_pattern_97 : decode cX7_pattern 97 = .ok (.iload 5, 2) := by decide +kernel
theorem dX7_pattern_99 : decode cX7_pattern 99 = .ok (.aload_n 0, 1) := by decide +kernel
theorem dX7_pattern_100 : decode cX7_pattern 100 = .ok (.getfield 66, 3) := by decide +kernel
theorem dX7_pattern_103 : decode cX7_pattern 103 = .ok (.bipush 6, 2) := by decide +kernel
theorem dX7_pattern_105 : decode cX7_pattern 105 = .ok (.iload_n 3, 1) := by decide +kernel
theorem dX7_pattern_106 : decode cX7_pattern 106 = .ok (.imul, 1) := by decide +kernel
theorem dX7_pattern_107 : decode cX7_pattern 107 = .ok (.iload 4, 2) := by decide +kernel
theorem dX7_pattern_109 : decode cX7_pattern 109 = .ok (.iadd, 1) := by decide +kernel
theorem dX7_pattern_110 : decode cX7_pattern 110 = .ok (.iaload, 1) := by decide +kernel
theorem dX7_pattern_111 : decode cX7_pattern 111 = .ok (.if_icmp .ne 6, 3) := by decide +kernel
theorem dX7_pattern_114 : decode cX7_pattern 114 = .ok (.goto 15, 3) := by decide +kernel
theorem dX7_pattern_117 : decode cX7_pattern 117 = .ok (.aload_n 0, 1) := by decide +kernel
theorem dX7_pattern_118 : decode cX7_pattern 118 = .ok (.iload_n 3, 1) := by decide +kernel
theorem dX7_pattern_119 : decode cX7_pattern 119 = .ok (.iload 4, 2) := by decide +kernel
theorem dX7_pattern_121 : decode cX7_pattern 121 = .ok (.iload 5, 2) := by decide +kernel
theorem dX7_pattern_123 : decode cX7_pattern 123 = .ok (.invokevirtual 194, 3) := by decide +kernel
theorem dX7_pattern_126 : decode cX7_pattern 126 = .ok (.iinc 2 1, 3) := by decide +kernel
theorem dX7_pattern_129 : decode cX7_pattern 129 = .ok (.iinc 4 1, 3) := by decide +kernel
theorem dX7_pattern_132 : decode cX7_pattern 132 = .ok (.goto (-73), 3) := by decide +kernel
theorem dX7_pattern_135 : decode cX7_pattern 135 = .ok (.iinc 3 1, 3) := by decide +kernel
theorem dX7_pattern_138 : decode cX7_pattern 138 = .ok (.goto (-90), 3) := by decide +kernel
theorem dX7_pattern_141 : decode cX7_pattern 141 = .ok (.iload_n 2, 1) := by decide +kernel
theorem dX7_pattern_142 : decode cX7_pattern 142 = .ok (.ireturn, 1) := by decide +kernel
theorem dX7_letter_0 : decode cX7_letter 0 = .ok (.aload_n 0, 1) := by decide +kernel
theorem dX7_letter_1 : decode cX7_letter 1 = .ok (.invokevirtual 170, 3) := by decide +kernel
theorem dX7_letter_4 : decode cX7_letter 4 = .ok (.aload_n 0, 1) := by decide +kernel
theorem dX7_letter_5 : decode cX7_letter 5 = .ok (.iload_n 1, 1) := by decide +kernel
theorem dX7_letter_6 : decode cX7_letter 6 = .ok (.iconst 0, 1) := by decide +kernel
theorem dX7_letter_7 : decode cX7_letter 7 = .ok (.bipush 49, 2) := by decide +kernel
theorem dX7_letter_9 : decode cX7_letter 9 = .ok (.invokestatic 97, 3) := by decide +kernel
theorem dX7_letter_12 : decode cX7_letter 12 = .ok (.ifCond .ne 7, 3) := by decide +kernel
theorem dX7_letter_15 : decode cX7_letter 15 = .ok (.iconst 1, 1) := by decide +kernel
theorem dX7_letter_16 : decode cX7_letter 16 = .ok (.goto 4, 3) := by decide +kernel
theorem dX7_letter_19 : decode cX7_letter 19 = .ok (.iconst 0, 1) := by decide +kernel
theorem dX7_letter_20 : decode cX7_letter 20 = .ok (.iconst 1, 1) := by decide +kernel
theorem dX7_letter_21 : decode cX7_letter 21 = .ok (.invokevirtual 179, 3) := by decide +kernel
theorem dX7_letter_24 : decode cX7_letter 24 = .ok (.ifCond .eq 5, 3) := by decide +kernel
theorem dX7_letter_27 : decode cX7_letter 27 = .ok (.iconst 0, 1) := by decide +kernel
theorem dX7_letter_28 : decode cX7_letter 28 = .ok (.ireturn, 1) := by decide +kernel
theorem dX7_letter_29 : decode cX7_letter 29 = .ok (.aload_n 0, 1) := by decide +kernel
theorem dX7_letter_30 : decode cX7_letter 30 = .ok (.invokevirtual 198, 3) := by decide +kernel
theorem dX7_letter_33 : decode cX7_letter 33 = .ok (.istore_n 2, 1) := by decide +kernel
theorem dX7_letter_34 : decode cX7_letter 34 = .ok (.aload_n 0, 1) := by decide +kernel
theorem dX7_letter_35 : decode cX7_letter 35 = .ok (.iload_n 2, 1) := by decide +kernel
theorem dX7_letter_36 : decode cX7_letter 36 = .ok (.ifCond .eq 7, 3) := by decide +kernel
theorem dX7_letter_39 : decode cX7_letter 39 = .ok (.iconst (-1), 1) := by decide +kernel
theorem dX7_letter_40 : decode cX7_letter 40 = .ok (.goto 7, 3) := by decide +kernel
theorem dX7_letter_43 : decode cX7_letter 43 = .ok (.aload_n 0, 1) := by decide +kernel
theorem dX7_letter_44 : decode cX7_letter 44 = .ok (.getfield 121, 3) := by decide +kernel
theorem dX7_letter_47 : decode cX7_letter 47 = .ok (.putfield 81, 3) := by decide +kernel
theorem dX7_letter_50 : decode cX7_letter 50 = .ok (.aload_n 0, 1) := by decide +kernel
theorem dX7_letter_51 : decode cX7_letter 51 = .ok (.iload_n 2, 1) := by decide +kernel
theorem dX7_letter_52 : decode cX7_letter 52 = .ok (.ifCond .ne 7, 3) := by decide +kernel
theorem dX7_letter_55 : decode cX7_letter 55 = .ok (.iconst 1, 1) := by decide +kernel
theorem dX7_letter_56 : decode cX7_letter 56 = .ok (.goto 4, 3) := by decide +kernel
theorem dX7_letter_59 : decode cX7_letter 59 = .ok (.iconst 0, 1) := by decide +kernel
theorem dX7_letter_60 : decode cX7_letter 60 = .ok (.iconst 1, 1) := by decide +kernel
theorem dX7_letter_61 : decode cX7_letter 61 = .ok (.invokevirtual 179, 3) := by decide +kernel
theorem dX7_letter_64 : decode cX7_letter 64 = .ok (.ifCond .ne 25, 3) := by decide +kernel
theorem dX7_letter_67 : decode cX7_letter 67 = .ok (.aload_n 0, 1) := by decide +kernel
theorem dX7_letter_68 : decode cX7_letter 68 = .ok (.aload_n 0, 1) := by decide +kernel
theorem dX7_letter_69 : decode cX7_letter 69 = .ok (.getfield 101, 3) := by decide +kernel
theorem dX7_letter_72 : decode cX7_letter 72 = .ok (.bipush 80, 2) := by decide +kernel
theorem dX7_letter_74 : decode cX7_letter 74 = .ok (.if_icmp .ne 7, 3) := by decide +kernel
theorem dX7_letter_77 : decode cX7_letter 77 = .ok (.iconst 1, 1) := by decide +kernel
theorem dX7_letter_78 : decode cX7_letter 78 = .ok (.goto 4, 3) := by decide +kernel
theorem dX7_letter_81 : decode cX7_letter 81 = .ok (.iconst 0, 1) := by decide +kernel
theorem dX7_letter_82 : decode cX7_letter 82 = .ok (.iconst 2, 1) := by decide +kernel
theorem dX7_letter_83 : decode cX7_letter 83 = .ok (.invokevirtual 179, 3) := by decide +kernel
theorem dX7_letter_86 : decode cX7_letter 86 = .ok (.ifCond .eq 5, 3) := by decide +kernel
theorem dX7_letter_89 : decode cX7_letter 89 = .ok (.iconst 0, 1) := by decide +kernel
theorem dX7_letter_90 : decode cX7_letter 90 = .ok (.ireturn, 1) := by decide +kernel
theorem dX7_letter_91 : decode cX7_letter 91 = .ok (.aload_n 0, 1) := by decide +kernel
theorem dX7_letter_92 : decode cX7_letter 92 = .ok (.getfield 101, 3) := by decide +kernel
theorem dX7_letter_95 : decode cX7_letter 95 = .ok (.istore_n 3, 1) := by decide +kernel
theorem dX7_letter_96 : decode cX7_letter 96 = .ok (.aload_n 0, 1) := by decide +kernel
theorem dX7_letter_97 : decode cX7_letter 97 = .ok (.dup, 1) := by decide +kernel
theorem dX7_letter_98 : decode cX7_letter 98 = .ok (.getfield 101, 3) := by decide +kernel
theorem dX7_letter_101 : decode cX7_letter 101 = .ok (.iconst 1, 1) := by decide +kernel
theorem dX7_letter_102 : decode cX7_letter 102 = .ok (.iadd, 1) := by decide +kernel
theorem dX7_letter_103 : decode cX7_letter 103 = .ok (.putfield 101, 3) := by decide +kernel
theorem dX7_letter_106 : decode cX7_letter 106 = .ok (.aload_n 0, 1) := by decide +kernel
theorem dX7_letter_107 : decode cX7_letter 107 = .ok (.getfield 42, 3) := by decide +kernel
theorem dX7_letter_110 : decode cX7_letter 110 = .ok (.iload_n 3, 1) := by decide +kernel
theorem dX7_letter_111 : decode cX7_letter 111 = .ok (.iload_n 1, 1) := by decide +kernel
theorem dX7_letter_112 : decode cX7_letter 112 = .ok (.iastore, 1) := by decide +kernel
theorem dX7_letter_113 : decode cX7_letter 113 = .ok (.aload_n 0, 1) := by decide +kernel
theorem dX7_letter_114 : decode cX7_letter 114 = .ok (.getfield 45, 3) := by decide +kernel
theorem dX7_letter_117 : decode cX7_letter 117 = .ok (.iload_n 3, 1) := by decide +kernel
theorem dX7_letter_118 : decode cX7_letter 118 = .ok (.aload_n 0, 1) := by decide +kernel
theorem dX7_letter_119 : decode cX7_letter 119 = .ok (.getfield 201, 3) := by decide +kernel
theorem dX7_letter_122 : decode cX7_letter 122 = .ok (.iastore, 1) := by decide +kernel
theorem dX7_letter_123 : decode cX7_letter 123 = .ok (.aload_n 0, 1) := by decide +kernel
theorem dX7_letter_124 : decode cX7_letter 124 = .ok (.getfield 48, 3) := by decide +kernel
theorem dX7_letter_127 : decode cX7_letter 127 = .ok (.iload_n 3, 1) := by decide +kernel
theorem dX7_letter_128 : decode cX7_letter 128 = .ok (.aload_n 0, 1) := by decide +kernel
theorem dX7_letter_129 : decode cX7_letter 129 = .ok (.getfield 48, 3) := by decide +kernel
theorem dX7_letter_132 : decode cX7_letter 132 = .ok (.bipush 80, 2) := by decide +kernel
theorem dX7_letter_134 : decode cX7_letter 134 = .ok (.iaload, 1) := by decide +kernel
theorem dX7_letter_135 : decode cX7_letter 135 = .ok (.iastore, 1) := by decide +kernel
theorem dX7_letter_136 : decode cX7_letter 136 = .ok (.aload_n 0, 1) := by decide +kernel
theorem dX7_letter_137 : decode cX7_letter 137 = .ok (.getfield 51, 3) := by decide +kernel
theorem dX7_letter_140 : decode cX7_letter 140 = .ok (.iload_n 3, 1) := by decide +kernel
theorem dX7_letter_141 : decode cX7_letter 141 = .ok (.aload_n 0, 1) := by decide +kernel
theorem dX7_letter_142 : decode cX7_letter 142 = .ok (.getfield 51, 3) := by decide +kernel
theorem dX7_letter_145 : decode cX7_letter 145 = .ok (.bipush 80, 2) := by decide +kernel
theorem dX7_letter_147 : decode cX7_letter 147 = .ok (.iaload, 1) := by decide +kernel
theorem dX7_letter_148 : decode cX7_letter 148 = .ok (.iastore, 1) := by decide +kernel
theorem dX7_letter_149 : decode cX7_letter 149 = .ok (.iconst 0, 1) := by decide +kernel
theorem dX7_letter_150 : decode cX7_letter 150 = .ok (.istore 4, 2) := by decide +kernel
theorem dX7_letter_152 : decode cX7_letter 152 = .ok (.iload 4, 2) := by decide +kernel
theorem dX7_letter_154 : decode cX7_letter 154 = .ok (.aload_n 0, 1) := by decide +kernel
theorem dX7_letter_155 : decode cX7_letter 155 = .ok (.getfield 111, 3) := by decide +kernel
theorem dX7_letter_158 : decode cX7_letter 158 = .ok (.if_icmp .ge 29, 3) := by decide +kernel
theorem dX7_letter_161 : decode cX7_letter 161 = .ok (.aload_n 0, 1) := by decide +kernel
theorem dX7_letter_162 : decode cX7_letter 162 = .ok (.getfield 54, 3) := by decide +kernel
theorem dX7_letter_165 : decode cX7_letter 165 = .ok (.sipush 400, 3) := by decide +kernel
theorem dX7_letter_168 : decode cX7_letter 168 = .ok (.iload_n 3, 1) := by decide +kernel
theorem dX7_letter_169 : decode cX7_letter 169 = .ok (.imul, 1) := by decide +kernel
theorem dX7_letter_170 : decode cX7_letter 170 = .ok (.iload 4, 2) := by decide +kernel
theorem dX7_letter_172 : decode cX7_letter 172 = .ok (.iadd, 1) := by decide +kernel
theorem dX7_letter_173 : decode cX7_letter 173 = .ok (.aload_n 0, 1) := by decide +kernel
theorem dX7_letter_174 : decode cX7_letter 174 = .ok (.getfield 78, 3) := by decide +kernel
theorem dX7_letter_177 : decode cX7_letter 177 = .ok (.iload 4, 2) := by decide +kernel
theorem dX7_letter_179 : decode cX7_letter 179 = .ok (.baload, 1) := by decide +kernel
theorem dX7_letter_180 : decode cX7_letter 180 = .ok (.bastore, 1) := by decide +kernel
theorem dX7_letter_181 : decode cX7_letter 181 = .ok (.iinc 4 1, 3) := by decide +kernel
theorem dX7_letter_184 : decode cX7_letter 184 = .ok (.goto (-32), 3) := by decide +kernel
theorem dX7_letter_187 : decode cX7_letter 187 = .ok (.iconst 0, 1) := by decide +kernel
theorem dX7_letter_188 : decode cX7_letter 188 = .ok (.istore 4, 2) := by decide +kernel
theorem dX7_letter_190 : decode cX7_letter 190 = .ok (.iload 4, 2) := by decide +kernel
theorem dX7_letter_192 : decode cX7_letter 192 = .ok (.aload_n 0, 1) := by decide +kernel
theorem dX7_letter_193 : decode cX7_letter 193 = .ok (.getfield 51, 3) := by decide +kernel
theorem dX7_letter_196 : decode cX7_letter 196 = .ok (.iload_n 3, 1) := by decide +kernel
theorem dX7_letter_197 : decode cX7_letter 197 = .ok (.iaload, 1) := by decide +kernel
theorem dX7_letter_198 : decode cX7_letter 198 = .ok (.if_icmp .ge 78, 3) := by decide +kernel
theorem dX7_letter_201 : decode cX7_letter 201 = .ok (.aload_n 0, 1) := by decide +kernel
theorem dX7_letter_202 : decode cX7_letter 202 = .ok (.getfield 57, 3) := by decide +kernel
theorem dX7_letter_205 : decode cX7_letter 205 = .ok (.bipush 60, 2) := by decide +kernel
theorem dX7_letter_207 : decode cX7_letter 207 = .ok (.iload_n 3, 1) := by decide +kernel
theorem dX7_letter_208 : decode cX7_letter 208 = .ok (.imul, 1) := by decide +kernel
theorem dX7_letter_209 : decode cX7_letter 209 = .ok (.iload 4, 2) := by decide +kernel
theorem dX7_letter_211 : decode cX7_letter 211 = .ok (.iadd, 1) := by decide +kernel
theorem dX7_letter_212 : decode cX7_letter 212 = .ok (.aload_n 0, 1) := by decide +kernel
theorem dX7_letter_213 : decode cX7_letter 213 = .ok (.getfield 57, 3) := by decide +kernel
theorem dX7_letter_216 : decode cX7_letter 216 = .ok (.sipush 4800, 3) := by decide +kernel
theorem dX7_letter_219 : decode cX7_letter 219 = .ok (.iload 4, 2) := by decide +kernel
theorem dX7_letter_221 : decode cX7_letter 221 = .ok (.iadd, 1) := by decide +kernel
theorem dX7_letter_222 : decode cX7_letter 222 = .ok (.iaload, 1) := by decide +kernel
theorem dX7_letter_223 : decode cX7_letter 223 = .ok (.iastore, 1) := by decide +kernel
theorem dX7_letter_224 : decode cX7_letter 224 = .ok (.aload_n 0, 1) := by decide +kernel
theorem dX7_letter_225 : decode cX7_letter 225 = .ok (.getfield 60, 3) := by decide +kernel
theorem dX7_letter_228 : decode cX7_letter 228 = .ok (.bipush 60, 2) := by decide +kernel
theorem dX7_letter_230 : decode cX7_letter 230 = .ok (.iload_n 3, 1) := by decide +kernel
theorem dX7_letter_231 : decode cX7_letter 231 = .ok (.imul, 1) := by decide +kernel
theorem dX7_letter_232 : decode cX7_letter 232 = .ok (.iload 4, 2) := by decide +kernel
theorem dX7_letter_234 : decode cX7_letter 234 = .ok (.iadd, 1) := by decide +kernel
theorem dX7_letter_235 : decode cX7_letter 235 = .ok (.aload_n 0, 1) := by decide +kernel
theorem dX7_letter_236 : decode cX7_letter 236 = .ok (.getfield 60, 3) := by decide +kernel
theorem dX7_letter_239 : decode cX7_letter 239 = .ok (.sipush 4800, 3) := by decide +kernel
theorem dX7_letter_242 : decode cX7_letter 242 = .ok (.iload 4, 2) := by decide +kernel
theorem dX7_letter_244 : decode cX7_letter 244 = .ok (.iadd, 1) := by decide +kernel
theorem dX7_letter_245 : decode cX7_letter 245 = .ok (.iaload, 1) := by decide +kernel
theorem dX7_letter_246 : decode cX7_letter 246 = .ok (.iastore, 1) := by decide +kernel
theorem dX7_letter_247 : decode cX7_letter 247 = .ok (.aload_n 0, 1) := by decide +kernel
theorem dX7_letter_248 : decode cX7_letter 248 = .ok (.getfield 63, 3) := by decide +kernel
theorem dX7_letter_251 : decode cX7_letter 251 = .ok (.bipush 60, 2) := by decide +kernel
theorem dX7_letter_253 : decode cX7_letter 253 = .ok (.iload_n 3, 1) := by decide +kernel
theorem dX7_letter_254 : decode cX7_letter 254 = .ok (.imul, 1) := by decide +kernel
theorem dX7_letter_255 : decode cX7_letter 255 = .ok (.iload 4, 2) := by decide +kernel
theorem dX7_letter_257 : decode cX7_letter 257 = .ok (.iadd, 1) := by decide +kernel
theorem dX7_letter_258 : decode cX7_letter 258 = .ok (.aload_n 0, 1) := by decide +kernel
theorem dX7_letter_259 : decode cX7_letter 259 = .ok (.getfield 63, 3) := by decide +kernel
theorem dX7_letter_262 : decode cX7_letter 262 = .ok (.sipush 4800, 3) := by decide +kernel
theorem dX7_letter_265 : decode cX7_letter 265 = .ok (.iload 4, 2) := by decide +kernel
theorem dX7_letter_267 : decode cX7_letter 267 = .ok (.iadd, 1) := by decide +kernel
theorem dX7_letter_268 : decode cX7_letter 268 = .ok (.iaload, 1) := by decide +kernel
theorem dX7_letter_269 : decode cX7_letter 269 = .ok (.iastore, 1) := by decide +kernel
theorem dX7_letter_270 : decode cX7_letter 270 = .ok (.iinc 4 1, 3) := by decide +kernel
theorem dX7_letter_273 : decode cX7_letter 273 = .ok (.goto (-83), 3) := by decide +kernel
theorem dX7_letter_276 : decode cX7_letter 276 = .ok (.iconst 0, 1) := by decide +kernel
theorem dX7_letter_277 : decode cX7_letter 277 = .ok (.istore 4, 2) := by decide +kernel
theorem dX7_letter_279 : decode cX7_letter 279 = .ok (.iload 4, 2) := by decide +kernel
theorem dX7_letter_281 : decode cX7_letter 281 = .ok (.aload_n 0, 1) := by decide +kernel
theorem dX7_letter_282 : decode cX7_letter 282 = .ok (.getfield 48, 3) := by decide +kernel
theorem dX7_letter_285 : decode cX7_letter 285 = .ok (.iload_n 3, 1) := by decide +kernel
theorem dX7_letter_286 : decode cX7_letter 286 = .ok (.iaload, 1) := by decide +kernel
theorem dX7_letter_287 : decode cX7_letter 287 = .ok (.if_icmp .ge 36, 3) := by decide +kernel
theorem dX7_letter_290 : decode cX7_letter 290 = .ok (.aload_n 0, 1) := by decide +kernel
theorem dX7_letter_291 : decode cX7_letter 291 = .ok (.getfield 72, 3) := by decide +kernel
theorem dX7_letter_294 : decode cX7_letter 294 = .ok (.bipush 6, 2) := by decide +kernel
theorem dX7_letter_296 : decode cX7_letter 296 = .ok (.iload_n 3, 1) := by decide +kernel
theorem dX7_letter_297 : decode cX7_letter 297 = .ok (.imul, 1) := by decide +kernel
theorem dX7_letter_298 : decode cX7_letter 298 = .ok (.iload 4, 2) := by decide +kernel
theorem dX7_letter_300 : decode cX7_letter 300 = .ok (.iadd, 1) := by decide +kernel
theorem dX7_letter_301 : decode cX7_letter 301 = .ok (.iconst (-1), 1) := by decide +kernel
theorem dX7_letter_302 : decode cX7_letter 302 = .ok (.iastore, 1) := by decide +kernel
theorem dX7_letter_303 : decode cX7_letter 303 = .ok (.aload_n 0, 1) := by decide +kernel
theorem dX7_letter_304 : decode cX7_letter 304 = .ok (.iload_n 3, 1) := by decide +kernel
theorem dX7_letter_305 : decode cX7_letter 305 = .ok (.iload 4, 2) := by decide +kernel
theorem dX7_letter_307 : decode cX7_letter 307 = .ok (.aload_n 0, 1) := by decide +kernel
theorem dX7_letter_308 : decode cX7_letter 308 = .ok (.iload_n 3, 1) := by decide +kernel
theorem dX7_letter_309 : decode cX7_letter 309 = .ok (.iload 4, 2) := by decide +kernel
theorem dX7_letter_311 : decode cX7_letter 311 = .ok (.invokevirtual 190, 3) := by decide +kernel
theorem dX7_letter_314 : decode cX7_letter 314 = .ok (.invokevirtual 194, 3) := by decide +kernel
theorem dX7_letter_317 : decode cX7_letter 317 = .ok (.iinc 4 1, 3) := by decide +kernel
theorem dX7_letter_320 : decode cX7_letter 320 = .ok (.goto (-41), 3) := by decide +kernel
theorem dX7_letter_323 : decode cX7_letter 323 = .ok (.iload_n 3, 1) := by decide +kernel
theorem dX7_letter_324 : decode cX7_letter 324 = .ok (.ireturn, 1) := by decide +kernel
theorem dX7_hours_0 : decode cX7_hours 0 = .ok (.aload_n 0, 1) := by decide +kernel
theorem dX7_hours_1 : decode cX7_hours 1 = .ok (.iconst 0, 1) := by decide +kernel
theorem dX7_hours_2 : decode cX7_hours 2 = .ok (.putfield 91, 3) := by decide +kernel
theorem dX7_hours_5 : decode cX7_hours 5 = .ok (.aload_n 0, 1) := by decide +kernel
theorem dX7_hours_6 : decode cX7_hours 6 = .ok (.iload_n 1, 1) := by decide +kernel
theorem dX7_hours_7 : decode cX7_hours 7 = .ok (.invokestatic 176, 3) := by decide +kernel
theorem dX7_hours_10 : decode cX7_hours 10 = .ok (.iconst 1, 1) := by decide +kernel
theorem dX7_hours_11 : decode cX7_hours 11 = .ok (.invokevirtual 179, 3) := by decide +kernel
theorem dX7_hours_14 : decode cX7_hours 14 = .ok (.ifCond .ne 26, 3) := by decide +kernel
theorem dX7_hours_17 : decode cX7_hours 17 = .ok (.aload_n 0, 1) := by decide +kernel
theorem dX7_hours_18 : decode cX7_hours 18 = .ok (.iload_n 2, 1) := by decide +kernel
theorem dX7_hours_19 : decode cX7_hours 19 = .ok (.iconst 0, 1) := by decide +kernel
theorem dX7_hours_20 : decode cX7_hours 20 = .ok (.bipush 20, 2) := by decide +kernel
theorem dX7_hours_22 : decode cX7_hours 22 = .ok (.invokestatic 97, 3) := by decide +kernel
theorem dX7_hours_25 : decode cX7_hours 25 = .ok (.ifCond .ne 7, 3) := by decide +kernel
theorem dX7_hours_28 : decode cX7_hours 28 = .ok (.iconst 1, 1) := by decide +kernel
theorem dX7_hours_29 : decode cX7_hours 29 = .ok (.goto 4, 3) := by decide +kernel
theorem dX7_hours_32 : decode cX7_hours 32 = .ok (.iconst 0, 1) := by decide +kernel
theorem dX7_hours_33 : decode cX7_hours 33 = .ok (.iconst 2, 1) := by decide +kernel
theorem dX7_hours_34 : decode cX7_hours 34 = .ok (.invokevirtual 179, 3) := by decide +kernel
theorem dX7_hours_37 : decode cX7_hours 37 = .ok (.ifCond .eq 4, 3) := by decide +kernel
theorem dX7_hours_40 : decode cX7_hours 40 = .ok (.return_, 1) := by decide +kernel
theorem dX7_hours_41 : decode cX7_hours 41 = .ok (.aload_n 0, 1) := by decide +kernel
theorem dX7_hours_42 : decode cX7_hours 42 = .ok (.getfield 39, 3) := by decide +kernel
theorem dX7_hours_45 : decode cX7_hours 45 = .ok (.iload_n 1, 1) := by decide +kernel
theorem dX7_hours_46 : decode cX7_hours 46 = .ok (.iload_n 2, 1) := by decide +kernel
theorem dX7_hours_47 : decode cX7_hours 47 = .ok (.iastore, 1) := by decide +kernel
theorem dX7_hours_48 : decode cX7_hours 48 = .ok (.return_, 1) := by decide +kernel
theorem dX7_isOf_0 : decode cX7_isOf 0 = .ok (.iload_n 2, 1) := by decide +kernel
theorem dX7_isOf_1 : decode cX7_isOf 1 = .ok (.bipush 6, 2) := by decide +kernel
theorem dX7_isOf_3 : decode cX7_isOf 3 = .ok (.idiv, 1) := by decide +kernel
theorem dX7_isOf_4 : decode cX7_isOf 4 = .ok (.aload_n 0, 1) := by decide +kernel
theorem dX7_isOf_5 : decode cX7_isOf 5 = .ok (.getfield 101, 3) := by decide +kernel
theorem dX7_isOf_8 : decode cX7_isOf 8 = .ok (.if_icmp .ge 56, 3) := by decide +kernel
theorem dX7_isOf_11 : decode cX7_isOf 11 = .ok (.iload_n 2, 1) := by decide +kernel
theorem dX7_isOf_12 : decode cX7_isOf 12 = .ok (.bipush 6, 2) := by decide +kernel
theorem dX7_isOf_14 : decode cX7_isOf 14 = .ok (.irem, 1) := by decide +kernel
theorem dX7_isOf_15 : decode cX7_isOf 15 = .ok (.aload_n 0, 1) := by decide +kernel
theorem dX7_isOf_16 : decode cX7_isOf 16 = .ok (.getfield 48, 3) := by decide +kernel
theorem dX7_isOf_19 : decode cX7_isOf 19 = .ok (.iload_n 2, 1) := by decide +kernel
theorem dX7_isOf_20 : decode cX7_isOf 20 = .ok (.bipush 6, 2) := by decide +kernel
theorem dX7_isOf_22 : decode cX7_isOf 22 = .ok (.idiv, 1) := by decide +kernel
theorem dX7_isOf_23 : decode cX7_isOf 23 = .ok (.iaload, 1) := by decide +kernel
theorem dX7_isOf_24 : decode cX7_isOf 24 = .ok (.if_icmp .ge 40, 3) := by decide +kernel
theorem dX7_isOf_27 : decode cX7_isOf 27 = .ok (.aload_n 0, 1) := by decide +kernel
theorem dX7_isOf_28 : decode cX7_isOf 28 = .ok (.getfield 72, 3) := by decide +kernel
theorem dX7_isOf_31 : decode cX7_isOf 31 = .ok (.iload_n 2, 1) := by decide +kernel
theorem dX7_isOf_32 : decode cX7_isOf 32 = .ok (.iaload, 1) := by decide +kernel
theorem dX7_isOf_33 : decode cX7_isOf 33 = .ok (.ifCond .ge 31, 3) := by decide +kernel
theorem dX7_isOf_36 : decode cX7_isOf 36 = .ok (.aload_n 0, 1) := by decide +kernel
theorem dX7_isOf_37 : decode cX7_isOf 37 = .ok (.getfield 66, 3) := by decide +kernel
theorem dX7_isOf_40 : decode cX7_isOf 40 = .ok (.iload_n 2, 1) := by decide +kernel
theorem dX7_isOf_41 : decode cX7_isOf 41 = .ok (.iaload, 1) := by decide +kernel
theorem dX7_isOf_42 : decode cX7_isOf 42 = .ok (.ifCond .lt 22, 3) := by decide +kernel
theorem dX7_isOf_45 : decode cX7_isOf 45 = .ok (.aload_n 0, 1) := by decide +kernel
theorem dX7_isOf_46 : decode cX7_isOf 46 = .ok (.getfield 13, 3) := by decide +kernel
theorem dX7_isOf_49 : decode cX7_isOf 49 = .ok (.aload_n 0, 1) := by decide +kernel
theorem dX7_isOf_50 : decode cX7_isOf 50 = .ok (.getfield 66, 3) := by decide +kernel
theorem dX7_isOf_53 : decode cX7_isOf 53 = .ok (.iload_n 2, 1) := by decide +kernel
theorem dX7_isOf_54 : decode cX7_isOf 54 = .ok (.iaload, 1) := by decide +kernel
theorem dX7_isOf_55 : decode cX7_isOf 55 = .ok (.iaload, 1) := by decide +kernel
theorem dX7_isOf_56 : decode cX7_isOf 56 = .ok (.iload_n 1, 1) := by decide +kernel
theorem dX7_isOf_57 : decode cX7_isOf 57 = .ok (.if_icmp .ne 7, 3) := by decide +kernel
theorem dX7_isOf_60 : decode cX7_isOf 60 = .ok (.iconst 1, 1) := by decide +kernel
theorem dX7_isOf_61 : decode cX7_isOf 61 = .ok (.goto 4, 3) := by decide +kernel
theorem dX7_isOf_64 : decode cX7_isOf 64 = .ok (.iconst 0, 1) := by decide +kernel
theorem dX7_isOf_65 : decode cX7_isOf 65 = .ok (.ireturn, 1) := by decide +kernel
theorem dX7_isAhead_0 : decode cX7_isAhead 0 = .ok (.aload_n 0, 1) := by decide +kernel
theorem dX7_isAhead_1 : decode cX7_isAhead 1 = .ok (.getfield 19, 3) := by decide +kernel
theorem dX7_isAhead_4 : decode cX7_isAhead 4 = .ok (.aload_n 0, 1) := by decide +kernel
theorem dX7_isAhead_5 : decode cX7_isAhead 5 = .ok (.getfield 66, 3) := by decide +kernel
theorem dX7_isAhead_8 : decode cX7_isAhead 8 = .ok (.iload_n 1, 1) := by decide +kernel
theorem dX7_isAhead_9 : decode cX7_isAhead 9 = .ok (.iaload, 1) := by decide +kernel
theorem dX7_isAhead_10 : decode cX7_isAhead 10 = .ok (.baload, 1) := by decide +kernel
theorem dX7_isAhead_11 : decode cX7_isAhead 11 = .ok (.istore_n 3, 1) := by decide +kernel
theorem dX7_isAhead_12 : decode cX7_isAhead 12 = .ok (.aload_n 0, 1) := by decide +kernel
theorem dX7_isAhead_13 : decode cX7_isAhead 13 = .ok (.getfield 19, 3) := by decide +kernel
theorem dX7_isAhead_16 : decode cX7_isAhead 16 = .ok (.aload_n 0, 1) := by decide +kernel
theorem dX7_isAhead_17 : decode cX7_isAhead 17 = .ok (.getfield 66, 3) := by decide +kernel
theorem dX7_isAhead_20 : decode cX7_isAhead 20 = .ok (.iload_n 2, 1) := by decide +kernel
theorem dX7_isAhead_21 : decode cX7_isAhead 21 = .ok (.iaload, 1) := by decide +kernel
theorem dX7_isAhead_22 : decode cX7_isAhead 22 = .ok (.baload, 1) := by decide +kernel
theorem dX7_isAhead_23 : decode cX7_isAhead 23 = .ok (.istore 4, 2) := by decide +kernel
theorem dX7_isAhead_25 : decode cX7_isAhead 25 = .ok (.iload_n 3, 1) := by decide +kernel
theorem dX7_isAhead_26 : decode cX7_isAhead 26 = .ok (.iload 4, 2) := by decide +kernel
theorem dX7_isAhead_28 : decode cX7_isAhead 28 = .ok (.if_icmp .eq 7, 3) := by decide +kernel
theorem dX7_isAhead_31 : decode cX7_isAhead 31 = .ok (.iload_n 3, 1) := by decide +kernel
theorem dX7_isAhead_32 : decode cX7_isAhead 32 = .ok (.goto 23, 3) := by decide +kernel
theorem dX7_isAhead_35 : decode cX7_isAhead 35 = .ok (.aload_n 0, 1) := by decide +kernel
theorem dX7_isAhead_36 : decode cX7_isAhead 36 = .ok (.getfield 69, 3) := by decide +kernel
theorem dX7_isAhead_39 : decode cX7_isAhead 39 = .ok (.iload_n 1, 1) := by decide +kernel
theorem dX7_isAhead_40 : decode cX7_isAhead 40 = .ok (.iaload, 1) := by decide +kernel
theorem dX7_isAhead_41 : decode cX7_isAhead 41 = .ok (.aload_n 0, 1) := by decide +kernel
theorem dX7_isAhead_42 : decode cX7_isAhead 42 = .ok (.getfield 69, 3) := by decide +kernel
theorem dX7_isAhead_45 : decode cX7_isAhead 45 = .ok (.iload_n 2, 1) := by decide +kernel
theorem dX7_isAhead_46 : decode cX7_isAhead 46 = .ok (.iaload, 1) := by decide +kernel
theorem dX7_isAhead_47 : decode cX7_isAhead 47 = .ok (.if_icmp .ge 7, 3) := by decide +kernel
theorem dX7_isAhead_50 : decode cX7_isAhead 50 = .ok (.iconst 1, 1) := by decide +kernel
theorem dX7_isAhead_51 : decode cX7_isAhead 51 = .ok (.goto 4, 3) := by decide +kernel
theorem dX7_isAhead_54 : decode cX7_isAhead 54 = .ok (.iconst 0, 1) := by decide +kernel
theorem dX7_isAhead_55 : decode cX7_isAhead 55 = .ok (.ireturn, 1) := by decide +kernel
theorem dX7_next_0 : decode cX7_next 0 = .ok (.iconst (-1), 1) := by decide +kernel
theorem dX7_next_1 : decode cX7_next 1 = .ok (.istore_n 2, 1) := by decide +kernel
theorem dX7_next_2 : decode cX7_next 2 = .ok (.iconst 0, 1) := by decide +kernel
theorem dX7_next_3 : decode cX7_next 3 = .ok (.istore_n 3, 1) := by decide +kernel
theorem dX7_next_4 : decode cX7_next 4 = .ok (.iload_n 3, 1) := by decide +kernel
theorem dX7_next_5 : decode cX7_next 5 = .ok (.sipush 480, 3) := by decide +kernel
theorem dX7_next_8 : decode cX7_next 8 = .ok (.if_icmp .ge 33, 3) := by decide +kernel
theorem dX7_next_11 : decode cX7_next 11 = .ok (.aload_n 0, 1) := by decide +kernel
theorem dX7_next_12 : decode cX7_next 12 = .ok (.iload_n 1, 1) := by decide +kernel
theorem dX7_next_13 : decode cX7_next 13 = .ok (.iload_n 3, 1) := by decide +kernel
theorem dX7_next_14 : decode cX7_next 14 = .ok (.invokevirtual 204, 3) := by decide +kernel
theorem dX7_next_17 : decode cX7_next 17 = .ok (.ifCond .eq 18, 3) := by decide +kernel
theorem dX7_next_20 : decode cX7_next 20 = .ok (.iload_n 2, 1) := by decide +kernel
theorem dX7_next_21 : decode cX7_next 21 = .ok (.ifCond .lt 12, 3) := by decide +kernel
theorem dX7_next_24 : decode cX7_next 24 = .ok (.aload_n 0, 1) := by decide +kernel
theorem dX7_next_25 : decode cX7_next 25 = .ok (.iload_n 3, 1) := by decide +kernel
theorem dX7_next_26 : decode cX7_next 26 = .ok (.iload_n 2, 1) := by decide +kernel
theorem dX7_next_27 : decode cX7_next 27 = .ok (.invokevirtual 207, 3) := by decide +kernel
theorem dX7_next_30 : decode cX7_next 30 = .ok (.ifCond .eq 5, 3) := by decide +kernel
theorem dX7_next_33 : decode cX7_next 33 = .ok (.iload_n 3, 1) := by decide +kernel
theorem dX7_next_34 : decode cX7_next 34 = .ok (.istore_n 2, 1) := by decide +kernel
theorem dX7_next_35 : decode cX7_next 35 = .ok (.iinc 3 1, 3) := by decide +kernel
theorem dX7_next_38 : decode cX7_next 38 = .ok (.goto (-34), 3) := by decide +kernel
theorem dX7_next_41 : decode cX7_next 41 = .ok (.iload_n 2, 1) := by decide +kernel
theorem dX7_next_42 : decode cX7_next 42 = .ok (.ireturn, 1) := by decide +kernel
theorem dX7_days_0 : decode cX7_days 0 = .ok (.aload_n 0, 1) := by decide +kernel
theorem dX7_days_1 : decode cX7_days 1 = .ok (.iconst 0, 1) := by decide +kernel
theorem dX7_days_2 : decode cX7_days 2 = .ok (.putfield 91, 3) := by decide +kernel
theorem dX7_days_5 : decode cX7_days 5 = .ok (.aload_n 0, 1) := by decide +kernel
theorem dX7_days_6 : decode cX7_days 6 = .ok (.iload_n 1, 1) := by decide +kernel
theorem dX7_days_7 : decode cX7_days 7 = .ok (.iconst 0, 1) := by decide +kernel
theorem dX7_days_8 : decode cX7_days 8 = .ok (.bipush 60, 2) := by decide +kernel
theorem dX7_days_10 : decode cX7_days 10 = .ok (.invokestatic 97, 3) := by decide +kernel
theorem dX7_days_13 : decode cX7_days 13 = .ok (.ifCond .ne 7, 3) := by decide +kernel
theorem dX7_days_16 : decode cX7_days 16 = .ok (.iconst 1, 1) := by decide +kernel
theorem dX7_days_17 : decode cX7_days 17 = .ok (.goto 4, 3) := by decide +kernel
theorem dX7_days_20 : decode cX7_days 20 = .ok (.iconst 0, 1) := by decide +kernel
theorem dX7_days_21 : decode cX7_days 21 = .ok (.iconst 1, 1) := by decide +kernel
theorem dX7_days_22 : decode cX7_days 22 = .ok (.invokevirtual 179, 3) := by decide +kernel
theorem dX7_days_25 : decode cX7_days 25 = .ok (.ifCond .eq 5, 3) := by decide +kernel
theorem dX7_days_28 : decode cX7_days 28 = .ok (.iconst 0, 1) := by decide +kernel
theorem dX7_days_29 : decode cX7_days 29 = .ok (.ireturn, 1) := by decide +kernel
theorem dX7_days_30 : decode cX7_days 30 = .ok (.iconst 0, 1) := by decide +kernel
theorem dX7_days_31 : decode cX7_days 31 = .ok (.istore_n 2, 1) := by decide +kernel
theorem dX7_days_32 : decode cX7_days 32 = .ok (.iload_n 2, 1) := by decide +kernel
theorem dX7_days_33 : decode cX7_days 33 = .ok (.iload_n 1, 1) := by decide +kernel
theorem dX7_days_34 : decode cX7_days 34 = .ok (.if_icmp .ge 85, 3) := by decide +kernel
theorem dX7_days_37 : decode cX7_days 37 = .ok (.aload_n 0, 1) := by decide +kernel
theorem dX7_days_38 : decode cX7_days 38 = .ok (.getfield 201, 3) := by decide +kernel
theorem dX7_days_41 : decode cX7_days 41 = .ok (.sipush 400, 3) := by decide +kernel
theorem dX7_days_44 : decode cX7_days 44 = .ok (.if_icmp .ge 75, 3) := by decide +kernel
theorem dX7_days_47 : decode cX7_days 47 = .ok (.aload_n 0, 1) := by decide +kernel
theorem dX7_days_48 : decode cX7_days 48 = .ok (.dup, 1) := by decide +kernel
theorem dX7_days_49 : decode cX7_days 49 = .ok (.getfield 201, 3) := by decide +kernel
theorem dX7_days_52 : decode cX7_days 52 = .ok (.iconst 1, 1) := by decide +kernel
theorem dX7_days_53 : decode cX7_days 53 = .ok (.iadd, 1) := by decide +kernel
theorem dX7_days_54 : decode cX7_days 54 = .ok (.putfield 201, 3) := by decide +kernel
theorem dX7_days_57 : decode cX7_days 57 = .ok (.iconst 0, 1) := by decide +kernel
theorem dX7_days_58 : decode cX7_days 58 = .ok (.istore_n 3, 1) := by decide +kernel
theorem dX7_days_59 : decode cX7_days 59 = .ok (.iload_n 3, 1) := by decide +kernel
theorem dX7_days_60 : decode cX7_days 60 = .ok (.iconst 4, 1) := by decide +kernel
theorem dX7_days_61 : decode cX7_days 61 = .ok (.if_icmp .ge 52, 3) := by decide +kernel
theorem dX7_days_64 : decode cX7_days 64 = .ok (.iconst 0, 1) := by decide +kernel
theorem dX7_days_65 : decode cX7_days 65 = .ok (.istore 4, 2) := by decide +kernel
theorem dX7_days_67 : decode cX7_days 67 = .ok (.iload 4, 2) := by decide +kernel
theorem dX7_days_69 : decode cX7_days 69 = .ok (.aload_n 0, 1) := by decide +kernel
theorem dX7_days_70 : decode cX7_days 70 = .ok (.getfield 39, 3) := by decide +kernel
theorem dX7_days_73 : decode cX7_days 73 = .ok (.iload_n 3, 1) := by decide +kernel
theorem dX7_days_74 : decode cX7_days 74 = .ok (.iaload, 1) := by decide +kernel
theorem dX7_days_75 : decode cX7_days 75 = .ok (.if_icmp .ge 32, 3) := by decide +kernel
theorem dX7_days_78 : decode cX7_days 78 = .ok (.aload_n 0, 1) := by decide +kernel
theorem dX7_days_79 : decode cX7_days 79 = .ok (.iload_n 3, 1) := by decide +kernel
theorem dX7_days_80 : decode cX7_days 80 = .ok (.invokevirtual 210, 3) := by decide +kernel
theorem dX7_days_83 : decode cX7_days 83 = .ok (.istore 5, 2) := by decide +kernel
theorem dX7_days_85 : decode cX7_days 85 = .ok (.iload 5, 2) := by decide +kernel
theorem dX7_days_87 : decode cX7_days 87 = .ok (.ifCond .lt 14, 3) := by decide +kernel
theorem dX7_days_90 : decode cX7_days 90 = .ok (.aload_n 0, 1) := by decide +kernel
theorem dX7_days_91 : decode cX7_days 91 = .ok (.getfield 72, 3) := by decide +kernel
theorem dX7_days_94 : decode cX7_days 94 = .ok (.iload 5, 2) := by decide +kernel
theorem dX7_days_96 : decode cX7_days 96 = .ok (.aload_n 0, 1) := by decide +kernel
theorem dX7_days_97 : decode cX7_days 97 = .ok (.getfield 201, 3) := by decide +kernel
theorem dX7_days_100 : decode cX7_days 100 = .ok (.iastore, 1) := by decide +kernel
theorem dX7_days_101 : decode cX7_days 101 = .ok (.iinc 4 1, 3) := by decide +kernel
theorem dX7_days_104 : decode cX7_days 104 = .ok (.goto (-37), 3) := by decide +kernel
theorem dX7_days_107 : decode cX7_days 107 = .ok (.iinc 3 1, 3) := by decide +kernel
theorem dX7_days_110 : decode cX7_days 110 = .ok (.goto (-51), 3) := by decide +kernel
theorem dX7_days_113 : decode cX7_days 113 = .ok (.iinc 2 1, 3) := by decide +kernel
theorem dX7_days_116 : decode cX7_days 116 = .ok (.goto (-84), 3) := by decide +kernel
theorem dX7_days_119 : decode cX7_days 119 = .ok (.aload_n 0, 1) := by decide +kernel
theorem dX7_days_120 : decode cX7_days 120 = .ok (.getfield 201, 3) := by decide +kernel
theorem dX7_days_123 : decode cX7_days 123 = .ok (.ireturn, 1) := by decide +kernel
theorem dX7_answer_0 : decode cX7_answer 0 = .ok (.aload_n 0, 1) := by decide +kernel
theorem dX7_answer_1 : decode cX7_answer 1 = .ok (.iconst 0, 1) := by decide +kernel
theorem dX7_answer_2 : decode cX7_answer 2 = .ok (.putfield 91, 3) := by decide +kernel
theorem dX7_answer_5 : decode cX7_answer 5 = .ok (.aload_n 0, 1) := by decide +kernel
theorem dX7_answer_6 : decode cX7_answer 6 = .ok (.aload_n 0, 1) := by decide +kernel
theorem dX7_answer_7 : decode cX7_answer 7 = .ok (.iload_n 1, 1) := by decide +kernel
theorem dX7_answer_8 : decode cX7_answer 8 = .ok (.iload_n 2, 1) := by decide +kernel
theorem dX7_answer_9 : decode cX7_answer 9 = .ok (.invokevirtual 214, 3) := by decide +kernel
theorem dX7_answer_12 : decode cX7_answer 12 = .ok (.iconst 1, 1) := by decide +kernel
theorem dX7_answer_13 : decode cX7_answer 13 = .ok (.invokevirtual 179, 3) := by decide +kernel
theorem dX7_answer_16 : decode cX7_answer 16 = .ok (.ifCond .ne 17, 3) := by decide +kernel
theorem dX7_answer_19 : decode cX7_answer 19 = .ok (.aload_n 0, 1) := by decide +kernel
theorem dX7_answer_20 : decode cX7_answer 20 = .ok (.getfield 72, 3) := by decide +kernel
theorem dX7_answer_23 : decode cX7_answer 23 = .ok (.bipush 6, 2) := by decide +kernel
theorem dX7_answer_25 : decode cX7_answer 25 = .ok (.iload_n 1, 1) := by decide +kernel
theorem dX7_answer_26 : decode cX7_answer 26 = .ok (.imul, 1) := by decide +kernel
theorem dX7_answer_27 : decode cX7_answer 27 = .ok (.iload_n 2, 1) := by decide +kernel
theorem dX7_answer_28 : decode cX7_answer 28 = .ok (.iadd, 1) := by decide +kernel
theorem dX7_answer_29 : decode cX7_answer 29 = .ok (.iaload, 1) := by decide +kernel
theorem dX7_answer_30 : decode cX7_answer 30 = .ok (.ifCond .lt 5, 3) := by decide +kernel
theorem dX7_answer_33 : decode cX7_answer 33 = .ok (.iconst 0, 1) := by decide +kernel
theorem dX7_answer_34 : decode cX7_answer 34 = .ok (.ireturn, 1) := by decide +kernel
theorem dX7_answer_35 : decode cX7_answer 35 = .ok (.aload_n 0, 1) := by decide +kernel
theorem dX7_answer_36 : decode cX7_answer 36 = .ok (.getfield 72, 3) := by decide +kernel
theorem dX7_answer_39 : decode cX7_answer 39 = .ok (.bipush 6, 2) := by decide +kernel
theorem dX7_answer_41 : decode cX7_answer 41 = .ok (.iload_n 1, 1) := by decide +kernel
theorem dX7_answer_42 : decode cX7_answer 42 = .ok (.imul, 1) := by decide +kernel
theorem dX7_answer_43 : decode cX7_answer 43 = .ok (.iload_n 2, 1) := by decide +kernel
theorem dX7_answer_44 : decode cX7_answer 44 = .ok (.iadd, 1) := by decide +kernel
theorem dX7_answer_45 : decode cX7_answer 45 = .ok (.aload_n 0, 1) := by decide +kernel
theorem dX7_answer_46 : decode cX7_answer 46 = .ok (.getfield 201, 3) := by decide +kernel
theorem dX7_answer_49 : decode cX7_answer 49 = .ok (.iastore, 1) := by decide +kernel
theorem dX7_answer_50 : decode cX7_answer 50 = .ok (.iconst 1, 1) := by decide +kernel
theorem dX7_answer_51 : decode cX7_answer 51 = .ok (.ireturn, 1) := by decide +kernel
theorem dX7_waits_0 : decode cX7_waits 0 = .ok (.aload_n 0, 1) := by decide +kernel
theorem dX7_waits_1 : decode cX7_waits 1 = .ok (.iconst 0, 1) := by decide +kernel
theorem dX7_waits_2 : decode cX7_waits 2 = .ok (.putfield 91, 3) := by decide +kernel
theorem dX7_waits_5 : decode cX7_waits 5 = .ok (.aload_n 0, 1) := by decide +kernel
theorem dX7_waits_6 : decode cX7_waits 6 = .ok (.iload_n 1, 1) := by decide +kernel
theorem dX7_waits_7 : decode cX7_waits 7 = .ok (.invokestatic 176, 3) := by decide +kernel
theorem dX7_waits_10 : decode cX7_waits 10 = .ok (.iconst 1, 1) := by decide +kernel
theorem dX7_waits_11 : decode cX7_waits 11 = .ok (.invokevirtual 179, 3) := by decide +kernel
theorem dX7_waits_14 : decode cX7_waits 14 = .ok (.ifCond .eq 5, 3) := by decide +kernel
theorem dX7_waits_17 : decode cX7_waits 17 = .ok (.iconst 0, 1) := by decide +kernel
theorem dX7_waits_18 : decode cX7_waits 18 = .ok (.ireturn, 1) := by decide +kernel
theorem dX7_waits_19 : decode cX7_waits 19 = .ok (.iconst 0, 1) := by decide +kernel
theorem dX7_waits_20 : decode cX7_waits 20 = .ok (.istore_n 2, 1) := by decide +kernel
theorem dX7_waits_21 : decode cX7_waits 21 = .ok (.iconst 0, 1) := by decide +kernel
theorem dX7_waits_22 : decode cX7_waits 22 = .ok (.istore_n 3, 1) := by decide +kernel
theorem dX7_waits_23 : decode cX7_waits 23 = .ok (.iload_n 3, 1) := by decide +kernel
theorem dX7_waits_24 : decode cX7_waits 24 = .ok (.sipush 480, 3) := by decide +kernel
theorem dX7_waits_27 : decode cX7_waits 27 = .ok (.if_icmp .ge 26, 3) := by decide +kernel
theorem dX7_waits_30 : decode cX7_waits 30 = .ok (.iload_n 2, 1) := by decide +kernel
theorem dX7_waits_31 : decode cX7_waits 31 = .ok (.aload_n 0, 1) := by decide +kernel
theorem dX7_waits_32 : decode cX7_waits 32 = .ok (.iload_n 1, 1) := by decide +kernel
theorem dX7_waits_33 : decode cX7_waits 33 = .ok (.iload_n 3, 1) := by decide +kernel
theorem dX7_waits_34 : decode cX7_waits 34 = .ok (.invokevirtual 204, 3) := by decide +kernel
theorem dX7_waits_37 : decode cX7_waits 37 = .ok (.ifCond .eq 7, 3) := by decide +kernel
theorem dX7_waits_40 : decode cX7_waits 40 = .ok (.iconst 1, 1) := by decide +kernel
theorem dX7_waits_41 : decode cX7_waits 41 = .ok (.goto 4, 3) := by decide +kernel
theorem dX7_waits_44 : decode cX7_waits 44 = .ok (.iconst 0, 1) := by decide +kernel
theorem dX7_waits_45 : decode cX7_waits 45 = .ok (.iadd, 1) := by decide +kernel
theorem dX7_waits_46 : decode cX7_waits 46 = .ok (.istore_n 2, 1) := by decide +kernel
theorem dX7_waits_47 : decode cX7_waits 47 = .ok (.iinc 3 1, 3) := by decide +kernel
theorem dX7_waits_50 : decode cX7_waits 50 = .ok (.goto (-27), 3) := by decide +kernel
theorem dX7_waits_53 : decode cX7_waits 53 = .ok (.iload_n 2, 1) := by decide +kernel
theorem dX7_waits_54 : decode cX7_waits 54 = .ok (.ireturn, 1) := by decide +kernel
theorem dX7_late_0 : decode cX7_late 0 = .ok (.aload_n 0, 1) := by decide +kernel
theorem dX7_late_1 : decode cX7_late 1 = .ok (.iconst 0, 1) := by decide +kernel
theorem dX7_late_2 : decode cX7_late 2 = .ok (.putfield 91, 3) := by decide +kernel
theorem dX7_late_5 : decode cX7_late 5 = .ok (.aload_n 0, 1) := by decide +kernel
theorem dX7_late_6 : decode cX7_late 6 = .ok (.iload_n 1, 1) := by decide +kernel
theorem dX7_late_7 : decode cX7_late 7 = .ok (.invokestatic 176, 3) := by decide +kernel
theorem dX7_late_10 : decode cX7_late 10 = .ok (.iconst 1, 1) := by decide +kernel
theorem dX7_late_11 : decode cX7_late 11 = .ok (.invokevirtual 179, 3) := by decide +kernel
theorem dX7_late_14 : decode cX7_late 14 = .ok (.ifCond .eq 5, 3) := by decide +kernel
theorem dX7_late_17 : decode cX7_late 17 = .ok (.iconst 0, 1) := by decide +kernel
theorem dX7_late_18 : decode cX7_late 18 = .ok (.ireturn, 1) := by decide +kernel
theorem dX7_late_19 : decode cX7_late 19 = .ok (.iconst 0, 1) := by decide +kernel
theorem dX7_late_20 : decode cX7_late 20 = .ok (.istore_n 2, 1) := by decide +kernel
theorem dX7_late_21 : decode cX7_late 21 = .ok (.iconst 0, 1) := by decide +kernel
theorem dX7_late_22 : decode cX7_late 22 = .ok (.istore_n 3, 1) := by decide +kernel
theorem dX7_late_23 : decode cX7_late 23 = .ok (.iconst 0, 1) := by decide +kernel
theorem dX7_late_24 : decode cX7_late 24 = .ok (.istore 4, 2) := by decide +kernel
theorem dX7_late_26 : decode cX7_late 26 = .ok (.iload 4, 2) := by decide +kernel
theorem dX7_late_28 : decode cX7_late 28 = .ok (.sipush 460, 3) := by decide +kernel
theorem dX7_late_31 : decode cX7_late 31 = .ok (.if_icmp .gt 80, 3) := by decide +kernel
theorem dX7_late_34 : decode cX7_late 34 = .ok (.iconst 0, 1) := by decide +kernel
theorem dX7_late_35 : decode cX7_late 35 = .ok (.istore 5, 2) := by decide +kernel
theorem dX7_late_37 : decode cX7_late 37 = .ok (.iload 5, 2) := by decide +kernel
theorem dX7_late_39 : decode cX7_late 39 = .ok (.sipush 480, 3) := by decide +kernel
theorem dX7_late_42 : decode cX7_late 42 = .ok (.if_icmp .ge 63, 3) := by decide +kernel
theorem dX7_late_45 : decode cX7_late 45 = .ok (.aload_n 0, 1) := by decide +kernel
theorem dX7_late_46 : decode cX7_late 46 = .ok (.iload_n 1, 1) := by decide +kernel
theorem dX7_late_47 : decode cX7_late 47 = .ok (.iload 5, 2) := by decide +kernel
theorem dX7_late_49 : decode cX7_late 49 = .ok (.invokevirtual 204, 3) := by decide +kernel
theorem dX7_late_52 : decode cX7_late 52 = .ok (.ifCond .eq 47, 3) := by decide +kernel
theorem dX7_late_55 : decode cX7_late 55 = .ok (.aload_n 0, 1) := by decide +kernel
theorem dX7_late_56 : decode cX7_late 56 = .ok (.getfield 69, 3) := by decide +kernel
theorem dX7_late_59 : decode cX7_late 59 = .ok (.iload 5, 2) := by decide +kernel
theorem dX7_late_61 : decode cX7_late 61 = .ok (.iaload, 1) := by decide +kernel
theorem dX7_late_62 : decode cX7_late 62 = .ok (.iload 4, 2) := by decide +kernel
theorem dX7_late_64 : decode cX7_late 64 = .ok (.if_icmp .eq 6, 3) := by decide +kernel
theorem dX7_late_67 : decode cX7_late 67 = .ok (.goto 32, 3) := by decide +kernel
theorem dX7_late_70 : decode cX7_late 70 = .ok (.iinc 3 1, 3) := by decide +kernel
theorem dX7_late_73 : decode cX7_late 73 = .ok (.iload_n 2, 1) := by decide +kernel
theorem dX7_late_74 : decode cX7_late 74 = .ok (.iload_n 2, 1) := by decide +kernel
theorem dX7_late_75 : decode cX7_late 75 = .ok (.aload_n 0, 1) := by decide +kernel
theorem dX7_late_76 : decode cX7_late 76 = .ok (.getfield 39, 3) := by decide +kernel
theorem dX7_late_79 : decode cX7_late 79 = .ok (.iload_n 1, 1) := by decide +kernel
theorem dX7_late_80 : decode cX7_late 80 = .ok (.iaload, 1) := by decide +kernel
theorem dX7_late_81 : decode cX7_late 81 = .ok (.iload 4, 2) := by decide +kernel
theorem dX7_late_83 : decode cX7_late 83 = .ok (.aload_n 0, 1) := by decide +kernel
theorem dX7_late_84 : decode cX7_late 84 = .ok (.getfield 201, 3) := by decide +kernel
theorem dX7_late_87 : decode cX7_late 87 = .ok (.isub, 1) := by decide +kernel
theorem dX7_late_88 : decode cX7_late 88 = .ok (.imul, 1) := by decide +kernel
theorem dX7_late_89 : decode cX7_late 89 = .ok (.if_icmp .ge 7, 3) := by decide +kernel
theorem dX7_late_92 : decode cX7_late 92 = .ok (.iconst 1, 1) := by decide +kernel
theorem dX7_late_93 : decode cX7_late 93 = .ok (.goto 4, 3) := by decide +kernel
theorem dX7_late_96 : decode cX7_late 96 = .ok (.iconst 0, 1) := by decide +kernel
theorem dX7_late_97 : decode cX7_late 97 = .ok (.iadd, 1) := by decide +kernel
theorem dX7_late_98 : decode cX7_late 98 = .ok (.istore_n 2, 1) := by decide +kernel
theorem dX7_late_99 : decode cX7_late 99 = .ok (.iinc 5 1, 3) := by decide +kernel
theorem dX7_late_102 : decode cX7_late 102 = .ok (.goto (-65), 3) := by decide +kernel
theorem dX7_late_105 : decode cX7_late 105 = .ok (.iinc 4 1, 3) := by decide +kernel
theorem dX7_late_108 : decode cX7_late 108 = .ok (.goto (-82), 3) := by decide +kernel
theorem dX7_late_111 : decode cX7_late 111 = .ok (.iload_n 3, 1) := by decide +kernel
theorem dX7_late_112 : decode cX7_late 112 = .ok (.iload_n 2, 1) := by decide +kernel
theorem dX7_late_113 : decode cX7_late 113 = .ok (.isub, 1) := by decide +kernel
theorem dX7_late_114 : decode cX7_late 114 = .ok (.ireturn, 1) := by decide +kernel
theorem dX7_point_0 : decode cX7_point 0 = .ok (.aload_n 0, 1) := by decide +kernel
theorem dX7_point_1 : decode cX7_point 1 = .ok (.iconst 0, 1) := by decide +kernel
theorem dX7_point_2 : decode cX7_point 2 = .ok (.putfield 91, 3) := by decide +kernel
theorem dX7_point_5 : decode cX7_point 5 = .ok (.aload_n 0, 1) := by decide +kernel
theorem dX7_point_6 : decode cX7_point 6 = .ok (.aload_n 0, 1) := by decide +kernel
theorem dX7_point_7 : decode cX7_point 7 = .ok (.iload_n 1, 1) := by decide +kernel
theorem dX7_point_8 : decode cX7_point 8 = .ok (.iload_n 2, 1) := by decide +kernel
theorem dX7_point_9 : decode cX7_point 9 = .ok (.invokevirtual 214, 3) := by decide +kernel
theorem dX7_point_12 : decode cX7_point 12 = .ok (.iconst 1, 1) := by decide +kernel
theorem dX7_point_13 : decode cX7_point 13 = .ok (.invokevirtual 179, 3) := by decide +kernel
theorem dX7_point_16 : decode cX7_point 16 = .ok (.ifCond .eq 5, 3) := by decide +kernel
theorem dX7_point_19 : decode cX7_point 19 = .ok (.iconst 0, 1) := by decide +kernel
theorem dX7_point_20 : decode cX7_point 20 = .ok (.ireturn, 1) := by decide +kernel
theorem dX7_point_21 : decode cX7_point 21 = .ok (.bipush 6, 2) := by decide +kernel
theorem dX7_point_23 : decode cX7_point 23 = .ok (.iload_n 1, 1) := by decide +kernel
theorem dX7_point_24 : decode cX7_point 24 = .ok (.imul, 1) := by decide +kernel
theorem dX7_point_25 : decode cX7_point 25 = .ok (.iload_n 2, 1) := by decide +kernel
theorem dX7_point_26 : decode cX7_point 26 = .ok (.iadd, 1) := by decide +kernel
theorem dX7_point_27 : decode cX7_point 27 = .ok (.istore 4, 2) := by decide +kernel
theorem dX7_point_29 : decode cX7_point 29 = .ok (.iconst 0, 1) := by decide +kernel
theorem dX7_point_30 : decode cX7_point 30 = .ok (.istore 5, 2) := by decide +kernel
theorem dX7_point_32 : decode cX7_point 32 = .ok (.iload_n 3, 1) := by decide +kernel
theorem dX7_point_33 : decode cX7_point 33 = .ok (.tableswitch 213 0 4 #[35, 43, 51, 59, 164], 35) := by decide +kernel
theorem dX7_point_68 : decode cX7_point 68 = .ok (.aload_n 0, 1) := by decide +kernel
theorem dX7_point_69 : decode cX7_point 69 = .ok (.getfield 66, 3) := by decide +kernel
theorem dX7_point_72 : decode cX7_point 72 = .ok (.iload 4, 2) := by decide +kernel
theorem dX7_point_74 : decode cX7_point 74 = .ok (.iaload, 1) := by decide +kernel
theorem dX7_point_75 : decode cX7_point 75 = .ok (.ireturn, 1) := by decide +kernel
theorem dX7_point_76 : decode cX7_point 76 = .ok (.aload_n 0, 1) := by decide +kernel
theorem dX7_point_77 : decode cX7_point 77 = .ok (.getfield 69, 3) := by decide +kernel
theorem dX7_point_80 : decode cX7_point 80 = .ok (.iload 4, 2) := by decide +kernel
theorem dX7_point_82 : decode cX7_point 82 = .ok (.iaload, 1) := by decide +kernel
theorem dX7_point_83 : decode cX7_point 83 = .ok (.ireturn, 1) := by decide +kernel
theorem dX7_point_84 : decode cX7_point 84 = .ok (.aload_n 0, 1) := by decide +kernel
theorem dX7_point_85 : decode cX7_point 85 = .ok (.getfield 72, 3) := by decide +kernel
theorem dX7_point_88 : decode cX7_point 88 = .ok (.iload 4, 2) := by decide +kernel
theorem dX7_point_90 : decode cX7_point 90 = .ok (.iaload, 1) := by decide +kernel
theorem dX7_point_91 : decode cX7_point 91 = .ok (.ireturn, 1) := by decide +kernel
theorem dX7_point_92 : decode cX7_point 92 = .ok (.iconst 0, 1) := by decide +kernel
theorem dX7_point_93 : decode cX7_point 93 = .ok (.istore 6, 2) := by decide +kernel
theorem dX7_point_95 : decode cX7_point 95 = .ok (.iload 6, 2) := by decide +kernel
theorem dX7_point_97 : decode cX7_point 97 = .ok (.aload_n 0, 1) := by decide +kernel
theorem dX7_point_98 : decode cX7_point 98 = .ok (.getfield 101, 3) := by decide +kernel
theorem dX7_point_101 : decode cX7_point 101 = .ok (.if_icmp .ge 79, 3) := by decide +kernel
theorem dX7_point_104 : decode cX7_point 104 = .ok (.iconst 0, 1) := by decide +kernel
theorem dX7_point_105 : decode cX7_point 105 = .ok (.istore 7, 2) := by decide +kernel
theorem dX7_point_107 : decode cX7_point 107 = .ok (.iload 7, 2) := by decide +kernel
theorem dX7_point_109 : decode cX7_point 109 = .ok (.aload_n 0, 1) := by decide +kernel
theorem dX7_point_110 : decode cX7_point 110 = .ok (.getfield 48, 3) := by decide +kernel
theorem dX7_point_113 : decode cX7_point 113 = .ok (.iload 6, 2) := by decide +kernel
theorem dX7_point_115 : decode cX7_point 115 = .ok (.iaload, 1) := by decide +kernel
theorem dX7_point_116 : decode cX7_point 116 = .ok (.if_icmp .ge 58, 3) := by decide +kernel
theorem dX7_point_119 : decode cX7_point 119 = .ok (.iload 5, 2) := by decide +kernel
theorem dX7_point_121 : decode cX7_point 121 = .ok (.aload_n 0, 1) := by decide +kernel
theorem dX7_point_122 : decode cX7_point 122 = .ok (.getfield 42, 3) := by decide +kernel
theorem dX7_point_125 : decode cX7_point 125 = .ok (.iload 6, 2) := by decide +kernel
theorem dX7_point_127 : decode cX7_point 127 = .ok (.iaload, 1) := by decide +kernel
theorem dX7_point_128 : decode cX7_point 128 = .ok (.aload_n 0, 1) := by decide +kernel
theorem dX7_point_129 : decode cX7_point 129 = .ok (.getfield 42, 3) := by decide +kernel
theorem dX7_point_132 : decode cX7_point 132 = .ok (.iload_n 1, 1) := by decide +kernel
theorem dX7_point_133 : decode cX7_point 133 = .ok (.iaload, 1) := by decide +kernel
theorem dX7_point_134 : decode cX7_point 134 = .ok (.if_icmp .ne 30, 3) := by decide +kernel
theorem dX7_point_137 : decode cX7_point 137 = .ok (.aload_n 0, 1) := by decide +kernel
theorem dX7_point_138 : decode cX7_point 138 = .ok (.getfield 66, 3) := by decide +kernel
theorem dX7_point_141 : decode cX7_point 141 = .ok (.bipush 6, 2) := by decide +kernel
theorem dX7_point_143 : decode cX7_point 143 = .ok (.iload 6, 2) := by decide +kernel
theorem dX7_point_145 : decode cX7_point 145 = .ok (.imul, 1) := by decide +kernel
theorem dX7_point_146 : decode cX7_point 146 = .ok (.iload 7, 2) := by decide +kernel
theorem dX7_point_148 : decode cX7_point 148 = .ok (.iadd, 1) := by decide +kernel
theorem dX7_point_149 : decode cX7_point 149 = .ok (.iaload, 1) := by decide +kernel
theorem dX7_point_150 : decode cX7_point 150 = .ok (.aload_n 0, 1) := by decide +kernel
theorem dX7_point_151 : decode cX7_point 151 = .ok (.getfield 66, 3) := by decide +kernel
theorem dX7_point_154 : decode cX7_point 154 = .ok (.iload 4, 2) := by decide +kernel
theorem dX7_point_156 : decode cX7_point 156 = .ok (.iaload, 1) := by decide +kernel
theorem dX7_point_157 : decode cX7_point 157 = .ok (.if_icmp .ne 7, 3) := by decide +kernel
theorem dX7_point_160 : decode cX7_point 160 = .ok (.iconst 1, 1) := by decide +kernel
theorem dX7_point_161 : decode cX7_point 161 = .ok (.goto 4, 3) := by decide +kernel
theorem dX7_point_164 : decode cX7_point 164 = .ok (.iconst 0, 1) := by decide +kernel
theorem dX7_point_165 : decode cX7_point 165 = .ok (.iadd, 1) := by decide +kernel
theorem dX7_point_166 : decode cX7_point 166 = .ok (.istore 5, 2) := by decide +kernel
theorem dX7_point_168 : decode cX7_point 168 = .ok (.iinc 7 1, 3) := by decide +kernel
theorem dX7_point_171 : decode cX7_point 171 = .ok (.goto (-64), 3) := by decide +kernel
theorem dX7_point_174 : decode cX7_point 174 = .ok (.iinc 6 1, 3) := by decide +kernel
theorem dX7_point_177 : decode cX7_point 177 = .ok (.goto (-82), 3) := by decide +kernel
theorem dX7_point_180 : decode cX7_point 180 = .ok (.aload_n 0, 1) := by decide +kernel
theorem dX7_point_181 : decode cX7_point 181 = .ok (.getfield 66, 3) := by decide +kernel
theorem dX7_point_184 : decode cX7_point 184 = .ok (.iload 4, 2) := by decide +kernel
theorem dX7_point_186 : decode cX7_point 186 = .ok (.iaload, 1) := by decide +kernel
theorem dX7_point_187 : decode cX7_point 187 = .ok (.ifCond .ge 7, 3) := by decide +kernel
theorem dX7_point_190 : decode cX7_point 190 = .ok (.iconst 0, 1) := by decide +kernel
theorem dX7_point_191 : decode cX7_point 191 = .ok (.goto 5, 3) := by decide +kernel
theorem dX7_point_194 : decode cX7_point 194 = .ok (.iload 5, 2) := by decide +kernel
theorem dX7_point_196 : decode cX7_point 196 = .ok (.ireturn, 1) := by decide +kernel
theorem dX7_point_197 : decode cX7_point 197 = .ok (.iconst 0, 1) := by decide +kernel
theorem dX7_point_198 : decode cX7_point 198 = .ok (.istore 6, 2) := by decide +kernel
theorem dX7_point_200 : decode cX7_point 200 = .ok (.iload 6, 2) := by decide +kernel
theorem dX7_point_202 : decode cX7_point 202 = .ok (.aload_n 0, 1) := by decide +kernel
theorem dX7_point_203 : decode cX7_point 203 = .ok (.getfield 51, 3) := by decide +kernel
theorem dX7_point_206 : decode cX7_point 206 = .ok (.iload_n 1, 1) := by decide +kernel
theorem dX7_point_207 : decode cX7_point 207 = .ok (.iaload, 1) := by decide +kernel
theorem dX7_point_208 : decode cX7_point 208 = .ok (.if_icmp .ge 35, 3) := by decide +kernel
theorem dX7_point_211 : decode cX7_point 211 = .ok (.iload 5, 2) := by decide +kernel
theorem dX7_point_213 : decode cX7_point 213 = .ok (.aload_n 0, 1) := by decide +kernel
theorem dX7_point_214 : decode cX7_point 214 = .ok (.getfield 63, 3) := by decide +kernel
theorem dX7_point_217 : decode cX7_point 217 = .ok (.bipush 60, 2) := by decide +kernel
theorem dX7_point_219 : decode cX7_point 219 = .ok (.iload_n 1, 1) := by decide +kernel
theorem dX7_point_220 : decode cX7_point 220 = .ok (.imul, 1) := by decide +kernel
theorem dX7_point_221 : decode cX7_point 221 = .ok (.iload 6, 2) := by decide +kernel
theorem dX7_point_223 : decode cX7_point 223 = .ok (.iadd, 1) := by decide +kernel
theorem dX7_point_224 : decode cX7_point 224 = .ok (.iaload, 1) := by decide +kernel
theorem dX7_point_225 : decode cX7_point 225 = .ok (.iload_n 2, 1) := by decide +kernel
theorem dX7_point_226 : decode cX7_point 226 = .ok (.if_icmp .ne 7, 3) := by decide +kernel
theorem dX7_point_229 : decode cX7_point 229 = .ok (.iconst 1, 1) := by decide +kernel
theorem dX7_point_230 : decode cX7_point 230 = .ok (.goto 4, 3) := by decide +kernel
theorem dX7_point_233 : decode cX7_point 233 = .ok (.iconst 0, 1) := by decide +kernel
theorem dX7_point_234 : decode cX7_point 234 = .ok (.iadd, 1) := by decide +kernel
theorem dX7_point_235 : decode cX7_point 235 = .ok (.istore 5, 2) := by decide +kernel
theorem dX7_point_237 : decode cX7_point 237 = .ok (.iinc 6 1, 3) := by decide +kernel
theorem dX7_point_240 : decode cX7_point 240 = .ok (.goto (-40), 3) := by decide +kernel
theorem dX7_point_243 : decode cX7_point 243 = .ok (.iload 5, 2) := by decide +kernel
theorem dX7_point_245 : decode cX7_point 245 = .ok (.ireturn, 1) := by decide +kernel
theorem dX7_point_246 : decode cX7_point 246 = .ok (.aload_n 0, 1) := by decide +kernel
theorem dX7_point_247 : decode cX7_point 247 = .ok (.iconst 2, 1) := by decide +kernel
theorem dX7_point_248 : decode cX7_point 248 = .ok (.putfield 91, 3) := by decide +kernel
theorem dX7_point_251 : decode cX7_point 251 = .ok (.iconst 0, 1) := by decide +kernel
theorem dX7_point_252 : decode cX7_point 252 = .ok (.ireturn, 1) := by decide +kernel
theorem dX7_isClosed_0 : decode cX7_isClosed 0 = .ok (.iconst 1, 1) := by decide +kernel
theorem dX7_isClosed_1 : decode cX7_isClosed 1 = .ok (.istore_n 2, 1) := by decide +kernel
theorem dX7_isClosed_2 : decode cX7_isClosed 2 = .ok (.iconst 0, 1) := by decide +kernel
theorem dX7_isClosed_3 : decode cX7_isClosed 3 = .ok (.istore_n 3, 1) := by decide +kernel
theorem dX7_isClosed_4 : decode cX7_isClosed 4 = .ok (.iload_n 3, 1) := by decide +kernel
theorem dX7_isClosed_5 : decode cX7_isClosed 5 = .ok (.aload_n 0, 1) := by decide +kernel
theorem dX7_isClosed_6 : decode cX7_isClosed 6 = .ok (.getfield 48, 3) := by decide +kernel
theorem dX7_isClosed_9 : decode cX7_isClosed 9 = .ok (.iload_n 1, 1) := by decide +kernel
theorem dX7_isClosed_10 : decode cX7_isClosed 10 = .ok (.iaload, 1) := by decide +kernel
theorem dX7_isClosed_11 : decode cX7_isClosed 11 = .ok (.if_icmp .ge 33, 3) := by decide +kernel
theorem dX7_isClosed_14 : decode cX7_isClosed 14 = .ok (.iload_n 2, 1) := by decide +kernel
theorem dX7_isClosed_15 : decode cX7_isClosed 15 = .ok (.ifCond .eq 21, 3) := by decide +kernel
theorem dX7_isClosed_18 : decode cX7_isClosed 18 = .ok (.aload_n 0, 1) := by decide +kernel
theorem dX7_isClosed_19 : decode cX7_isClosed 19 = .ok (.getfield 72, 3) := by decide +kernel
theorem dX7_isClosed_22 : decode cX7_isClosed 22 = .ok (.bipush 6, 2) := by decide +kernel
theorem dX7_isClosed_24 : decode cX7_isClosed 24 = .ok (.iload_n 1, 1) := by decide +kernel
theorem dX7_isClosed_25 : decode cX7_isClosed 25 = .ok (.imul, 1) := by decide +kernel
theorem dX7_isClosed_26 : decode cX7_isClosed 26 = .ok (.iload_n 3, 1) := by decide +kernel
theorem dX7_isClosed_27 : decode cX7_isClosed 27 = .ok (.iadd, 1) := by decide +kernel
theorem dX7_isClosed_28 : decode cX7_isClosed 28 = .ok (.iaload, 1) := by decide +kernel
theorem dX7_isClosed_29 : decode cX7_isClosed 29 = .ok (.ifCond .lt 7, 3) := by decide +kernel
theorem dX7_isClosed_32 : decode cX7_isClosed 32 = .ok (.iconst 1, 1) := by decide +kernel
theorem dX7_isClosed_33 : decode cX7_isClosed 33 = .ok (.goto 4, 3) := by decide +kernel
theorem dX7_isClosed_36 : decode cX7_isClosed 36 = .ok (.iconst 0, 1) := by decide +kernel
theorem dX7_isClosed_37 : decode cX7_isClosed 37 = .ok (.istore_n 2, 1) := by decide +kernel
theorem dX7_isClosed_38 : decode cX7_isClosed 38 = .ok (.iinc 3 1, 3) := by decide +kernel
theorem dX7_isClosed_41 : decode cX7_isClosed 41 = .ok (.goto (-37), 3) := by decide +kernel
theorem dX7_isClosed_44 : decode cX7_isClosed 44 = .ok (.iload_n 2, 1) := by decide +kernel
theorem dX7_isClosed_45 : decode cX7_isClosed 45 = .ok (.ireturn, 1) := by decide +kernel
theorem dX7_theAnswer_0 : decode cX7_theAnswer 0 = .ok (.iconst 0, 1) := by decide +kernel
theorem dX7_theAnswer_1 : decode cX7_theAnswer 1 = .ok (.istore_n 2, 1) := by decide +kernel
theorem dX7_theAnswer_2 : decode cX7_theAnswer 2 = .ok (.iconst 0, 1) := by decide +kernel
theorem dX7_theAnswer_3 : decode cX7_theAnswer 3 = .ok (.istore_n 3, 1) := by decide +kernel
theorem dX7_theAnswer_4 : decode cX7_theAnswer 4 = .ok (.iload_n 3, 1) := by decide +kernel
theorem dX7_theAnswer_5 : decode cX7_theAnswer 5 = .ok (.aload_n 0, 1) := by decide +kernel
theorem dX7_theAnswer_6 : decode cX7_theAnswer 6 = .ok (.getfield 48, 3) := by decide +kernel
theorem dX7_theAnswer_9 : decode cX7_theAnswer 9 = .ok (.iload_n 1, 1) := by decide +kernel
theorem dX7_theAnswer_10 : decode cX7_theAnswer 10 = .ok (.iaload, 1) := by decide +kernel
theorem dX7_theAnswer_11 : decode cX7_theAnswer 11 = .ok (.if_icmp .ge 41, 3) := by decide +kernel
theorem dX7_theAnswer_14 : decode cX7_theAnswer 14 = .ok (.aload_n 0, 1) := by decide +kernel
theorem dX7_theAnswer_15 : decode cX7_theAnswer 15 = .ok (.getfield 66, 3) := by decide +kernel
theorem dX7_theAnswer_18 : decode cX7_theAnswer 18 = .ok (.bipush 6, 2) := by decide +kernel
theorem dX7_theAnswer_20 : decode cX7_theAnswer 20 = .ok (.iload_n 1, 1) := by decide +kernel
theorem dX7_theAnswer_21 : decode cX7_theAnswer 21 = .ok (.imul, 1) := by decide +kernel
theorem dX7_theAnswer_22 : decode cX7_theAnswer 22 = .ok (.iload_n 3, 1) := by decide +kernel
theorem dX7_theAnswer_23 : decode cX7_theAnswer 23 = .ok (.iadd, 1) := by decide +kernel
theorem dX7_theAnswer_24 : decode cX7_theAnswer 24 = .ok (.iaload, 1) := by decide +kernel
theorem dX7_theAnswer_25 : decode cX7_theAnswer 25 = .ok (.ifCond .ge 5, 3) := by decide +kernel
theorem dX7_theAnswer_28 : decode cX7_theAnswer 28 = .ok (.iconst (-1), 1) := by decide +kernel
theorem dX7_theAnswer_29 : decode cX7_theAnswer 29 = .ok (.ireturn, 1) := by decide +kernel
theorem dX7_theAnswer_30 : decode cX7_theAnswer 30 = .ok (.iload_n 2, 1) := by decide +kernel
theorem dX7_theAnswer_31 : decode cX7_theAnswer 31 = .ok (.iconst 1, 1) := by decide +kernel
theorem dX7_theAnswer_32 : decode cX7_theAnswer 32 = .ok (.aload_n 0, 1) := by decide +kernel
theorem dX7_theAnswer_33 : decode cX7_theAnswer 33 = .ok (.getfield 66, 3) := by decide +kernel
theorem dX7_theAnswer_36 : decode cX7_theAnswer 36 = .ok (.bipush 6, 2) := by decide +kernel
theorem dX7_theAnswer_38 : decode cX7_theAnswer 38 = .ok (.iload_n 1, 1) := by decide +kernel
theorem dX7_theAnswer_39 : decode cX7_theAnswer 39 = .ok (.imul, 1) := by decide +kernel
theorem dX7_theAnswer_40 : decode cX7_theAnswer 40 = .ok (.iload_n 3, 1) := by decide +kernel
theorem dX7_theAnswer_41 : decode cX7_theAnswer 41 = .ok (.iadd, 1) := by decide +kernel
theorem dX7_theAnswer_42 : decode cX7_theAnswer 42 = .ok (.iaload, 1) := by decide +kernel
theorem dX7_theAnswer_43 : decode cX7_theAnswer 43 = .ok (.ishl, 1) := by decide +kernel
theorem dX7_theAnswer_44 : decode cX7_theAnswer 44 = .ok (.ior, 1) := by decide +kernel
theorem dX7_theAnswer_45 : decode cX7_theAnswer 45 = .ok (.istore_n 2, 1) := by decide +kernel
theorem dX7_theAnswer_46 : decode cX7_theAnswer 46 = .ok (.iinc 3 1, 3) := by decide +kernel
theorem dX7_theAnswer_49 : decode cX7_theAnswer 49 = .ok (.goto (-45), 3) := by decide +kernel
theorem dX7_theAnswer_52 : decode cX7_theAnswer 52 = .ok (.iconst (-1), 1) := by decide +kernel
theorem dX7_theAnswer_53 : decode cX7_theAnswer 53 = .ok (.istore_n 3, 1) := by decide +kernel
theorem dX7_theAnswer_54 : decode cX7_theAnswer 54 = .ok (.iconst 0, 1) := by decide +kernel
theorem dX7_theAnswer_55 : decode cX7_theAnswer 55 = .ok (.istore 4, 2) := by decide +kernel
theorem dX7_theAnswer_57 : decode cX7_theAnswer 57 = .ok (.iload 4, 2) := by decide +kernel
theorem dX7_theAnswer_59 : decode cX7_theAnswer 59 = .ok (.iconst 1, 1) := by decide +kernel
theorem dX7_theAnswer_60 : decode cX7_theAnswer 60 = .ok (.aload_n 0, 1) := by decide +kernel
theorem dX7_theAnswer_61 : decode cX7_theAnswer 61 = .ok (.getfield 217, 3) := by decide +kernel
theorem dX7_theAnswer_64 : decode cX7_theAnswer 64 = .ok (.ishl, 1) := by decide +kernel
theorem dX7_theAnswer_65 : decode cX7_theAnswer 65 = .ok (.if_icmp .ge 85, 3) := by decide +kernel
theorem dX7_theAnswer_68 : decode cX7_theAnswer 68 = .ok (.iconst 0, 1) := by decide +kernel
theorem dX7_theAnswer_69 : decode cX7_theAnswer 69 = .ok (.istore 5, 2) := by decide +kernel
theorem dX7_theAnswer_71 : decode cX7_theAnswer 71 = .ok (.iconst 0, 1) := by decide +kernel
theorem dX7_theAnswer_72 : decode cX7_theAnswer 72 = .ok (.istore 6, 2) := by decide +kernel
theorem dX7_theAnswer_74 : decode cX7_theAnswer 74 = .ok (.iload 6, 2) := by decide +kernel
theorem dX7_theAnswer_76 : decode cX7_theAnswer 76 = .ok (.aload_n 0, 1) := by decide +kernel
theorem dX7_theAnswer_77 : decode cX7_theAnswer 77 = .ok (.getfield 217, 3) := by decide +kernel
theorem dX7_theAnswer_80 : decode cX7_theAnswer 80 = .ok (.if_icmp .ge 36, 3) := by decide +kernel
theorem dX7_theAnswer_83 : decode cX7_theAnswer 83 = .ok (.iload 5, 2) := by decide +kernel
theorem dX7_theAnswer_85 : decode cX7_theAnswer 85 = .ok (.iload 4, 2) := by decide +kernel
theorem dX7_theAnswer_87 : decode cX7_theAnswer 87 = .ok (.iload 6, 2) := by decide +kernel
theorem dX7_theAnswer_89 : decode cX7_theAnswer 89 = .ok (.ishr, 1) := by decide +kernel
theorem dX7_theAnswer_90 : decode cX7_theAnswer 90 = .ok (.iconst 1, 1) := by decide +kernel
theorem dX7_theAnswer_91 : decode cX7_theAnswer 91 = .ok (.iand, 1) := by decide +kernel
theorem dX7_theAnswer_92 : decode cX7_theAnswer 92 = .ok (.iconst 1, 1) := by decide +kernel
theorem dX7_theAnswer_93 : decode cX7_theAnswer 93 = .ok (.if_icmp .ne 13, 3) := by decide +kernel
theorem dX7_theAnswer_96 : decode cX7_theAnswer 96 = .ok (.aload_n 0, 1) := by decide +kernel
theorem dX7_theAnswer_97 : decode cX7_theAnswer 97 = .ok (.getfield 75, 3) := by decide +kernel
theorem dX7_theAnswer_100 : decode cX7_theAnswer 100 = .ok (.iload 6, 2) := by decide +kernel
theorem dX7_theAnswer_102 : decode cX7_theAnswer 102 = .ok (.iaload, 1) := by decide +kernel
theorem dX7_theAnswer_103 : decode cX7_theAnswer 103 = .ok (.goto 4, 3) := by decide +kernel
theorem dX7_theAnswer_106 : decode cX7_theAnswer 106 = .ok (.iconst 0, 1) := by decide +kernel
theorem dX7_theAnswer_107 : decode cX7_theAnswer 107 = .ok (.ior, 1) := by decide +kernel
theorem dX7_theAnswer_108 : decode cX7_theAnswer 108 = .ok (.istore 5, 2) := by decide +kernel
theorem dX7_theAnswer_110 : decode cX7_theAnswer 110 = .ok (.iinc 6 1, 3) := by decide +kernel
theorem dX7_theAnswer_113 : decode cX7_theAnswer 113 = .ok (.goto (-39), 3) := by decide +kernel
theorem dX7_theAnswer_116 : decode cX7_theAnswer 116 = .ok (.iload_n 2, 1) := by decide +kernel
theorem dX7_theAnswer_117 : decode cX7_theAnswer 117 = .ok (.iload 5, 2) := by decide +kernel
theorem dX7_theAnswer_119 : decode cX7_theAnswer 119 = .ok (.iconst (-1), 1) := by decide +kernel
theorem dX7_theAnswer_120 : decode cX7_theAnswer 120 = .ok (.ixor, 1) := by decide +kernel
theorem dX7_theAnswer_121 : decode cX7_theAnswer 121 = .ok (.iand, 1) := by decide +kernel
theorem dX7_theAnswer_122 : decode cX7_theAnswer 122 = .ok (.ifCond .ne 22, 3) := by decide +kernel
theorem dX7_theAnswer_125 : decode cX7_theAnswer 125 = .ok (.iload_n 3, 1) := by decide +kernel
theorem dX7_theAnswer_126 : decode cX7_theAnswer 126 = .ok (.ifCond .lt 15, 3) := by decide +kernel
theorem dX7_theAnswer_129 : decode cX7_theAnswer 129 = .ok (.iload 4, 2) := by decide +kernel
theorem dX7_theAnswer_131 : decode cX7_theAnswer 131 = .ok (.invokestatic 220, 3) := by decide +kernel
theorem dX7_theAnswer_134 : decode cX7_theAnswer 134 = .ok (.iload_n 3, 1) := by decide +kernel
theorem dX7_theAnswer_135 : decode cX7_theAnswer 135 = .ok (.invokestatic 220, 3) := by decide +kernel
theorem dX7_theAnswer_138 : decode cX7_theAnswer 138 = .ok (.if_icmp .ge 6, 3) := by decide +kernel
theorem dX7_theAnswer_141 : decode cX7_theAnswer 141 = .ok (.iload 4, 2) := by decide +kernel
theorem dX7_theAnswer_143 : decode cX7_theAnswer 143 = .ok (.istore_n 3, 1) := by decide +kernel
theorem dX7_theAnswer_144 : decode cX7_theAnswer 144 = .ok (.iinc 4 1, 3) := by decide +kernel
theorem dX7_theAnswer_147 : decode cX7_theAnswer 147 = .ok (.goto (-90), 3) := by decide +kernel
theorem dX7_theAnswer_150 : decode cX7_theAnswer 150 = .ok (.iload_n 3, 1) := by decide +kernel
theorem dX7_theAnswer_151 : decode cX7_theAnswer 151 = .ok (.ireturn, 1) := by decide +kernel
theorem dX7_look_0 : decode cX7_look 0 = .ok (.aload_n 0, 1) := by decide +kernel
theorem dX7_look_1 : decode cX7_look 1 = .ok (.iconst 0, 1) := by decide +kernel
theorem dX7_look_2 : decode cX7_look 2 = .ok (.putfield 91, 3) := by decide +kernel
theorem dX7_look_5 : decode cX7_look 5 = .ok (.aload_n 0, 1) := by decide +kernel
theorem dX7_look_6 : decode cX7_look 6 = .ok (.aload_n 0, 1) := by decide +kernel
theorem dX7_look_7 : decode cX7_look 7 = .ok (.iload_n 1, 1) := by decide +kernel
theorem dX7_look_8 : decode cX7_look 8 = .ok (.invokevirtual 104, 3) := by decide +kernel
theorem dX7_look_11 : decode cX7_look 11 = .ok (.iconst 1, 1) := by decide +kernel
theorem dX7_look_12 : decode cX7_look 12 = .ok (.invokevirtual 179, 3) := by decide +kernel
theorem dX7_look_15 : decode cX7_look 15 = .ok (.ifCond .eq 5, 3) := by decide +kernel
theorem dX7_look_18 : decode cX7_look 18 = .ok (.iconst 0, 1) := by decide +kernel
theorem dX7_look_19 : decode cX7_look 19 = .ok (.ireturn, 1) := by decide +kernel
theorem dX7_look_20 : decode cX7_look 20 = .ok (.iload_n 2, 1) := by decide +kernel
theorem dX7_look_21 : decode cX7_look 21 = .ok (.tableswitch 76 0 4 #[35, 42, 49, 56, 70], 35) := by decide +kernel
theorem dX7_look_56 : decode cX7_look 56 = .ok (.aload_n 0, 1) := by decide +kernel
theorem dX7_look_57 : decode cX7_look 57 = .ok (.getfield 42, 3) := by decide +kernel
theorem dX7_look_60 : decode cX7_look 60 = .ok (.iload_n 1, 1) := by decide +kernel
theorem dX7_look_61 : decode cX7_look 61 = .ok (.iaload, 1) := by decide +kernel
theorem dX7_look_62 : decode cX7_look 62 = .ok (.ireturn, 1) := by decide +kernel
theorem dX7_look_63 : decode cX7_look 63 = .ok (.aload_n 0, 1) := by decide +kernel
theorem dX7_look_64 : decode cX7_look 64 = .ok (.getfield 45, 3) := by decide +kernel
theorem dX7_look_67 : decode cX7_look 67 = .ok (.iload_n 1, 1) := by decide +kernel
theorem dX7_look_68 : decode cX7_look 68 = .ok (.iaload, 1) := by decide +kernel
theorem dX7_look_69 : decode cX7_look 69 = .ok (.ireturn, 1) := by decide +kernel
theorem dX7_look_70 : decode cX7_look 70 = .ok (.aload_n 0, 1) := by decide +kernel
theorem dX7_look_71 : decode cX7_look 71 = .ok (.getfield 48, 3) := by decide +kernel
theorem dX7_look_74 : decode cX7_look 74 = .ok (.iload_n 1, 1) := by decide +kernel
theorem dX7_look_75 : decode cX7_look 75 = .ok (.iaload, 1) := by decide +kernel
theorem dX7_look_76 : decode cX7_look 76 = .ok (.ireturn, 1) := by decide +kernel
theorem dX7_look_77 : decode cX7_look 77 = .ok (.aload_n 0, 1) := by decide +kernel
theorem dX7_look_78 : decode cX7_look 78 = .ok (.iload_n 1, 1) := by decide +kernel
theorem dX7_look_79 : decode cX7_look 79 = .ok (.invokevirtual 225, 3) := by decide +kernel
theorem dX7_look_82 : decode cX7_look 82 = .ok (.ifCond .eq 7, 3) := by decide +kernel
theorem dX7_look_85 : decode cX7_look 85 = .ok (.iconst 1, 1) := by decide +kernel
theorem dX7_look_86 : decode cX7_look 86 = .ok (.goto 4, 3) := by decide +kernel
theorem dX7_look_89 : decode cX7_look 89 = .ok (.iconst 0, 1) := by decide +kernel
theorem dX7_look_90 : decode cX7_look 90 = .ok (.ireturn, 1) := by decide +kernel
theorem dX7_look_91 : decode cX7_look 91 = .ok (.aload_n 0, 1) := by decide +kernel
theorem dX7_look_92 : decode cX7_look 92 = .ok (.iload_n 1, 1) := by decide +kernel
theorem dX7_look_93 : decode cX7_look 93 = .ok (.invokevirtual 228, 3) := by decide +kernel
theorem dX7_look_96 : decode cX7_look 96 = .ok (.ireturn, 1) := by decide +kernel
theorem dX7_look_97 : decode cX7_look 97 = .ok (.aload_n 0, 1) := by decide +kernel
theorem dX7_look_98 : decode cX7_look 98 = .ok (.iconst 2, 1) := by decide +kernel
theorem dX7_look_99 : decode cX7_look 99 = .ok (.putfield 91, 3) := by decide +kernel
theorem dX7_look_102 : decode cX7_look 102 = .ok (.iconst 0, 1) := by decide +kernel
theorem dX7_look_103 : decode cX7_look 103 = .ok (.ireturn, 1) := by decide +kernel
theorem dX7_template_0 : decode cX7_template 0 = .ok (.aload_n 0, 1) := by decide +kernel
theorem dX7_template_1 : decode cX7_template 1 = .ok (.iconst 0, 1) := by decide +kernel
theorem dX7_template_2 : decode cX7_template 2 = .ok (.putfield 91, 3) := by decide +kernel
theorem dX7_template_5 : decode cX7_template 5 = .ok (.aload_n 0, 1) := by decide +kernel
theorem dX7_template_6 : decode cX7_template 6 = .ok (.iload_n 1, 1) := by decide +kernel
theorem dX7_template_7 : decode cX7_template 7 = .ok (.ifCond .le 13, 3) := by decide +kernel
theorem dX7_template_10 : decode cX7_template 10 = .ok (.iload_n 1, 1) := by decide +kernel
theorem dX7_template_11 : decode cX7_template 11 = .ok (.iconst 1, 1) := by decide +kernel
theorem dX7_template_12 : decode cX7_template 12 = .ok (.aload_n 0, 1) := by decide +kernel
theorem dX7_template_13 : decode cX7_template 13 = .ok (.getfield 94, 3) := by decide +kernel
theorem dX7_template_16 : decode cX7_template 16 = .ok (.ishl, 1) := by decide +kernel
theorem dX7_template_17 : decode cX7_template 17 = .ok (.if_icmp .lt 7, 3) := by decide +kernel
theorem dX7_template_20 : decode cX7_template 20 = .ok (.iconst 1, 1) := by decide +kernel
theorem dX7_template_21 : decode cX7_template 21 = .ok (.goto 4, 3) := by decide +kernel
theorem dX7_template_24 : decode cX7_template 24 = .ok (.iconst 0, 1) := by decide +kernel
theorem dX7_template_25 : decode cX7_template 25 = .ok (.iconst 1, 1) := by decide +kernel
theorem dX7_template_26 : decode cX7_template 26 = .ok (.invokevirtual 179, 3) := by decide +kernel
theorem dX7_template_29 : decode cX7_template 29 = .ok (.ifCond .eq 5, 3) := by decide +kernel
theorem dX7_template_32 : decode cX7_template 32 = .ok (.iconst 0, 1) := by decide +kernel
theorem dX7_template_33 : decode cX7_template 33 = .ok (.ireturn, 1) := by decide +kernel
theorem dX7_template_34 : decode cX7_template 34 = .ok (.aload_n 0, 1) := by decide +kernel
theorem dX7_template_35 : decode cX7_template 35 = .ok (.getfield 217, 3) := by decide +kernel
theorem dX7_template_38 : decode cX7_template 38 = .ok (.bipush 10, 2) := by decide +kernel
theorem dX7_template_40 : decode cX7_template 40 = .ok (.if_icmp .ne 5, 3) := by decide +kernel
theorem dX7_template_43 : decode cX7_template 43 = .ok (.iconst (-1), 1) := by decide +kernel
theorem dX7_template_44 : decode cX7_template 44 = .ok (.ireturn, 1) := by decide +kernel
theorem dX7_template_45 : decode cX7_template 45 = .ok (.aload_n 0, 1) := by decide +kernel
theorem dX7_template_46 : decode cX7_template 46 = .ok (.getfield 75, 3) := by decide +kernel
theorem dX7_template_49 : decode cX7_template 49 = .ok (.aload_n 0, 1) := by decide +kernel
theorem dX7_template_50 : decode cX7_template 50 = .ok (.getfield 217, 3) := by decide +kernel
theorem dX7_template_53 : decode cX7_template 53 = .ok (.iload_n 1, 1) := by decide +kernel
theorem dX7_template_54 : decode cX7_template 54 = .ok (.iastore, 1) := by decide +kernel
theorem dX7_template_55 : decode cX7_template 55 = .ok (.aload_n 0, 1) := by decide +kernel
theorem dX7_template_56 : decode cX7_template 56 = .ok (.dup, 1) := by decide +kernel
theorem dX7_template_57 : decode cX7_template 57 = .ok (.getfield 217, 3) := by decide +kernel
theorem dX7_template_60 : decode cX7_template 60 = .ok (.iconst 1, 1) := by decide +kernel
theorem dX7_template_61 : decode cX7_template 61 = .ok (.iadd, 1) := by decide +kernel
theorem dX7_template_62 : decode cX7_template 62 = .ok (.putfield 217, 3) := by decide +kernel
theorem dX7_template_65 : decode cX7_template 65 = .ok (.aload_n 0, 1) := by decide +kernel
theorem dX7_template_66 : decode cX7_template 66 = .ok (.getfield 217, 3) := by decide +kernel
theorem dX7_template_69 : decode cX7_template 69 = .ok (.iconst 1, 1) := by decide +kernel
theorem dX7_template_70 : decode cX7_template 70 = .ok (.isub, 1) := by decide +kernel
theorem dX7_template_71 : decode cX7_template 71 = .ok (.ireturn, 1) := by decide +kernel
theorem dX7_isUnder_0 : decode cX7_isUnder 0 = .ok (.iload_n 1, 1) := by decide +kernel
theorem dX7_isUnder_1 : decode cX7_isUnder 1 = .ok (.istore_n 3, 1) := by decide +kernel
theorem dX7_isUnder_2 : decode cX7_isUnder 2 = .ok (.iload_n 3, 1) := by decide +kernel
theorem dX7_isUnder_3 : decode cX7_isUnder 3 = .ok (.ifCond .lt 18, 3) := by decide +kernel
theorem dX7_isUnder_6 : decode cX7_isUnder 6 = .ok (.iload_n 3, 1) := by decide +kernel
theorem dX7_isUnder_7 : decode cX7_isUnder 7 = .ok (.iload_n 2, 1) := by decide +kernel
theorem dX7_isUnder_8 : decode cX7_isUnder 8 = .ok (.if_icmp .eq 13, 3) := by decide +kernel
theorem dX7_isUnder_11 : decode cX7_isUnder 11 = .ok (.aload_n 0, 1) := by decide +kernel
theorem dX7_isUnder_12 : decode cX7_isUnder 12 = .ok (.getfield 9, 3) := by decide +kernel
theorem dX7_isUnder_15 : decode cX7_isUnder 15 = .ok (.iload_n 3, 1) := by decide +kernel
theorem dX7_isUnder_16 : decode cX7_isUnder 16 = .ok (.iaload, 1) := by decide +kernel
theorem dX7_isUnder_17 : decode cX7_isUnder 17 = .ok (.istore_n 3, 1) := by decide +kernel
theorem dX7_isUnder_18 : decode cX7_isUnder 18 = .ok (.goto (-16), 3) := by decide +kernel
theorem dX7_isUnder_21 : decode cX7_isUnder 21 = .ok (.iload_n 3, 1) := by decide +kernel
theorem dX7_isUnder_22 : decode cX7_isUnder 22 = .ok (.ifCond .lt 7, 3) := by decide +kernel
theorem dX7_isUnder_25 : decode cX7_isUnder 25 = .ok (.iconst 1, 1) := by decide +kernel
theorem dX7_isUnder_26 : decode cX7_isUnder 26 = .ok (.goto 4, 3) := by decide +kernel
theorem dX7_isUnder_29 : decode cX7_isUnder 29 = .ok (.iconst 0, 1) := by decide +kernel
theorem dX7_isUnder_30 : decode cX7_isUnder 30 = .ok (.ireturn, 1) := by decide +kernel
theorem dX7_counted_0 : decode cX7_counted 0 = .ok (.iconst 0, 1) := by decide +kernel
theorem dX7_counted_1 : decode cX7_counted 1 = .ok (.istore_n 2, 1) := by decide +kernel
theorem dX7_counted_2 : decode cX7_counted 2 = .ok (.iload_n 2, 1) := by decide +kernel
theorem dX7_counted_3 : decode cX7_counted 3 = .ok (.sipush 400, 3) := by decide +kernel
theorem dX7_counted_6 : decode cX7_counted 6 = .ok (.if_icmp .gt 16, 3) := by decide +kernel
theorem dX7_counted_9 : decode cX7_counted 9 = .ok (.aload_n 0, 1) := by decide +kernel
theorem dX7_counted_10 : decode cX7_counted 10 = .ok (.getfield 88, 3) := by decide +kernel
theorem dX7_counted_13 : decode cX7_counted 13 = .ok (.iload_n 2, 1) := by decide +kernel
theorem dX7_counted_14 : decode cX7_counted 14 = .ok (.iconst 0, 1) := by decide +kernel
theorem dX7_counted_15 : decode cX7_counted 15 = .ok (.iastore, 1) := by decide +kernel
theorem dX7_counted_16 : decode cX7_counted 16 = .ok (.iinc 2 1, 3) := by decide +kernel
theorem dX7_counted_19 : decode cX7_counted 19 = .ok (.goto (-17), 3) := by decide +kernel
theorem dX7_counted_22 : decode cX7_counted 22 = .ok (.iconst 0, 1) := by decide +kernel
theorem dX7_counted_23 : decode cX7_counted 23 = .ok (.istore_n 2, 1) := by decide +kernel
theorem dX7_counted_24 : decode cX7_counted 24 = .ok (.iload_n 2, 1) := by decide +kernel
theorem dX7_counted_25 : decode cX7_counted 25 = .ok (.aload_n 0, 1) := by decide +kernel
theorem dX7_counted_26 : decode cX7_counted 26 = .ok (.getfield 101, 3) := by decide +kernel
theorem dX7_counted_29 : decode cX7_counted 29 = .ok (.if_icmp .ge 65, 3) := by decide +kernel
theorem dX7_counted_32 : decode cX7_counted 32 = .ok (.iconst 0, 1) := by decide +kernel
theorem dX7_counted_33 : decode cX7_counted 33 = .ok (.istore_n 3, 1) := by decide +kernel
theorem dX7_counted_34 : decode cX7_counted 34 = .ok (.iload_n 3, 1) := by decide +kernel
theorem dX7_counted_35 : decode cX7_counted 35 = .ok (.aload_n 0, 1) := by decide +kernel
theorem dX7_counted_36 : decode cX7_counted 36 = .ok (.getfield 48, 3) := by decide +kernel
theorem dX7_counted_39 : decode cX7_counted 39 = .ok (.iload_n 2, 1) := by decide +kernel
theorem dX7_counted_40 : decode cX7_counted 40 = .ok (.iaload, 1) := by decide +kernel
theorem dX7_counted_41 : decode cX7_counted 41 = .ok (.if_icmp .ge 47, 3) := by decide +kernel
theorem dX7_counted_44 : decode cX7_counted 44 = .ok (.aload_n 0, 1) := by decide +kernel
theorem dX7_counted_45 : decode cX7_counted 45 = .ok (.getfield 88, 3) := by decide +kernel
theorem dX7_counted_48 : decode cX7_counted 48 = .ok (.aload_n 0, 1) := by decide +kernel
theorem dX7_counted_49 : decode cX7_counted 49 = .ok (.getfield 45, 3) := by decide +kernel
theorem dX7_counted_52 : decode cX7_counted 52 = .ok (.iload_n 2, 1) := by decide +kernel
theorem dX7_counted_53 : decode cX7_counted 53 = .ok (.iaload, 1) := by decide +kernel
theorem dX7_counted_54 : decode cX7_counted 54 = .ok (.dup2, 1) := by decide +kernel
theorem dX7_counted_55 : decode cX7_counted 55 = .ok (.iaload, 1) := by decide +kernel
theorem dX7_counted_56 : decode cX7_counted 56 = .ok (.aload_n 0, 1) := by decide +kernel
theorem dX7_counted_57 : decode cX7_counted 57 = .ok (.aload_n 0, 1) := by decide +kernel
theorem dX7_counted_58 : decode cX7_counted 58 = .ok (.getfield 66, 3) := by decide +kernel
theorem dX7_counted_61 : decode cX7_counted 61 = .ok (.bipush 6, 2) := by decide +kernel
theorem dX7_counted_63 : decode cX7_counted 63 = .ok (.iload_n 2, 1) := by decide +kernel
theorem dX7_counted_64 : decode cX7_counted 64 = .ok (.imul, 1) := by decide +kernel
theorem dX7_counted_65 : decode cX7_counted 65 = .ok (.iload_n 3, 1) := by decide +kernel
theorem dX7_counted_66 : decode cX7_counted 66 = .ok (.iadd, 1) := by decide +kernel
theorem dX7_counted_67 : decode cX7_counted 67 = .ok (.iaload, 1) := by decide +kernel
theorem dX7_counted_68 : decode cX7_counted 68 = .ok (.iload_n 1, 1) := by decide +kernel
theorem dX7_counted_69 : decode cX7_counted 69 = .ok (.invokevirtual 231, 3) := by decide +kernel
theorem dX7_counted_72 : decode cX7_counted 72 = .ok (.ifCond .eq 7, 3) := by decide +kernel
theorem dX7_counted_75 : decode cX7_counted 75 = .ok (.iconst 1, 1) := by decide +kernel
theorem dX7_counted_76 : decode cX7_counted 76 = .ok (.goto 4, 3) := by decide +kernel
theorem dX7_counted_79 : decode cX7_counted 79 = .ok (.iconst 0, 1) := by decide +kernel
theorem dX7_counted_80 : decode cX7_counted 80 = .ok (.iadd, 1) := by decide +kernel
theorem dX7_counted_81 : decode cX7_counted 81 = .ok (.iastore, 1) := by decide +kernel
theorem dX7_counted_82 : decode cX7_counted 82 = .ok (.iinc 3 1, 3) := by decide +kernel
theorem dX7_counted_85 : decode cX7_counted 85 = .ok (.goto (-51), 3) := by decide +kernel
theorem dX7_counted_88 : decode cX7_counted 88 = .ok (.iinc 2 1, 3) := by decide +kernel
theorem dX7_counted_91 : decode cX7_counted 91 = .ok (.goto (-67), 3) := by decide +kernel
theorem dX7_counted_94 : decode cX7_counted 94 = .ok (.return_, 1) := by decide +kernel
theorem dX7_counts_0 : decode cX7_counts 0 = .ok (.aload_n 0, 1) := by decide +kernel
theorem dX7_counts_1 : decode cX7_counts 1 = .ok (.iconst 0, 1) := by decide +kernel
theorem dX7_counts_2 : decode cX7_counts 2 = .ok (.putfield 91, 3) := by decide +kernel
theorem dX7_counts_5 : decode cX7_counts 5 = .ok (.aload_n 0, 1) := by decide +kernel
theorem dX7_counts_6 : decode cX7_counts 6 = .ok (.aload_n 0, 1) := by decide +kernel
theorem dX7_counts_7 : decode cX7_counts 7 = .ok (.iload_n 1, 1) := by decide +kernel
theorem dX7_counts_8 : decode cX7_counts 8 = .ok (.invokevirtual 173, 3) := by decide +kernel
theorem dX7_counts_11 : decode cX7_counts 11 = .ok (.iconst 1, 1) := by decide +kernel
theorem dX7_counts_12 : decode cX7_counts 12 = .ok (.invokevirtual 179, 3) := by decide +kernel
theorem dX7_counts_15 : decode cX7_counts 15 = .ok (.ifCond .ne 15, 3) := by decide +kernel
theorem dX7_counts_18 : decode cX7_counts 18 = .ok (.iload_n 2, 1) := by decide +kernel
theorem dX7_counts_19 : decode cX7_counts 19 = .ok (.iconst 0, 1) := by decide +kernel
theorem dX7_counts_20 : decode cX7_counts 20 = .ok (.aload_n 0, 1) := by decide +kernel
theorem dX7_counts_21 : decode cX7_counts 21 = .ok (.getfield 201, 3) := by decide +kernel
theorem dX7_counts_24 : decode cX7_counts 24 = .ok (.invokestatic 97, 3) := by decide +kernel
theorem dX7_counts_27 : decode cX7_counts 27 = .ok (.ifCond .ne 5, 3) := by decide +kernel
theorem dX7_counts_30 : decode cX7_counts 30 = .ok (.iconst 0, 1) := by decide +kernel
theorem dX7_counts_31 : decode cX7_counts 31 = .ok (.ireturn, 1) := by decide +kernel
theorem dX7_counts_32 : decode cX7_counts 32 = .ok (.aload_n 0, 1) := by decide +kernel
theorem dX7_counts_33 : decode cX7_counts 33 = .ok (.iload_n 1, 1) := by decide +kernel
theorem dX7_counts_34 : decode cX7_counts 34 = .ok (.invokevirtual 234, 3) := by decide +kernel
theorem dX7_counts_37 : decode cX7_counts 37 = .ok (.aload_n 0, 1) := by decide +kernel
theorem dX7_counts_38 : decode cX7_counts 38 = .ok (.getfield 88, 3) := by decide +kernel
theorem dX7_counts_41 : decode cX7_counts 41 = .ok (.iload_n 2, 1) := by decide +kernel
theorem dX7_counts_42 : decode cX7_counts 42 = .ok (.iaload, 1) := by decide +kernel
theorem dX7_counts_43 : decode cX7_counts 43 = .ok (.ireturn, 1) := by decide +kernel
theorem dX7_wave_0 : decode cX7_wave 0 = .ok (.aload_n 0, 1) := by decide +kernel
theorem dX7_wave_1 : decode cX7_wave 1 = .ok (.iconst 0, 1) := by decide +kernel
theorem dX7_wave_2 : decode cX7_wave 2 = .ok (.putfield 91, 3) := by decide +kernel
theorem dX7_wave_5 : decode cX7_wave 5 = .ok (.aload_n 0, 1) := by decide +kernel
theorem dX7_wave_6 : decode cX7_wave 6 = .ok (.aload_n 0, 1) := by decide +kernel
theorem dX7_wave_7 : decode cX7_wave 7 = .ok (.iload_n 1, 1) := by decide +kernel
theorem dX7_wave_8 : decode cX7_wave 8 = .ok (.invokevirtual 173, 3) := by decide +kernel
theorem dX7_wave_11 : decode cX7_wave 11 = .ok (.iconst 1, 1) := by decide +kernel
theorem dX7_wave_12 : decode cX7_wave 12 = .ok (.invokevirtual 179, 3) := by decide +kernel
theorem dX7_wave_15 : decode cX7_wave 15 = .ok (.ifCond .eq 5, 3) := by decide +kernel
theorem dX7_wave_18 : decode cX7_wave 18 = .ok (.iconst 0, 1) := by decide +kernel
theorem dX7_wave_19 : decode cX7_wave 19 = .ok (.ireturn, 1) := by decide +kernel
theorem dX7_wave_20 : decode cX7_wave 20 = .ok (.aload_n 0, 1) := by decide +kernel
theorem dX7_wave_21 : decode cX7_wave 21 = .ok (.iload_n 1, 1) := by decide +kernel
theorem dX7_wave_22 : decode cX7_wave 22 = .ok (.invokevirtual 234, 3) := by decide +kernel
theorem dX7_wave_25 : decode cX7_wave 25 = .ok (.iconst 0, 1) := by decide +kernel
theorem dX7_wave_26 : decode cX7_wave 26 = .ok (.istore_n 2, 1) := by decide +kernel
theorem dX7_wave_27 : decode cX7_wave 27 = .ok (.iload_n 2, 1) := by decide +kernel
theorem dX7_wave_28 : decode cX7_wave 28 = .ok (.aload_n 0, 1) := by decide +kernel
theorem dX7_wave_29 : decode cX7_wave 29 = .ok (.getfield 201, 3) := by decide +kernel
theorem dX7_wave_32 : decode cX7_wave 32 = .ok (.if_icmp .gt 74, 3) := by decide +kernel
theorem dX7_wave_35 : decode cX7_wave 35 = .ok (.iconst 0, 1) := by decide +kernel
theorem dX7_wave_36 : decode cX7_wave 36 = .ok (.istore_n 3, 1) := by decide +kernel
theorem dX7_wave_37 : decode cX7_wave 37 = .ok (.iconst 0, 1) := by decide +kernel
theorem dX7_wave_38 : decode cX7_wave 38 = .ok (.istore 4, 2) := by decide +kernel
theorem dX7_wave_40 : decode cX7_wave 40 = .ok (.iload 4, 2) := by decide +kernel
theorem dX7_wave_42 : decode cX7_wave 42 = .ok (.iload_n 2, 1) := by decide +kernel
theorem dX7_wave_43 : decode cX7_wave 43 = .ok (.if_icmp .ge 33, 3) := by decide +kernel
theorem dX7_wave_46 : decode cX7_wave 46 = .ok (.iload_n 3, 1) := by decide +kernel
theorem dX7_wave_47 : decode cX7_wave 47 = .ok (.aload_n 0, 1) := by decide +kernel
theorem dX7_wave_48 : decode cX7_wave 48 = .ok (.getfield 88, 3) := by decide +kernel
theorem dX7_wave_51 : decode cX7_wave 51 = .ok (.iload 4, 2) := by decide +kernel
theorem dX7_wave_53 : decode cX7_wave 53 = .ok (.iaload, 1) := by decide +kernel
theorem dX7_wave_54 : decode cX7_wave 54 = .ok (.aload_n 0, 1) := by decide +kernel
theorem dX7_wave_55 : decode cX7_wave 55 = .ok (.getfield 88, 3) := by decide +kernel
theorem dX7_wave_58 : decode cX7_wave 58 = .ok (.iload_n 2, 1) := by decide +kernel
theorem dX7_wave_59 : decode cX7_wave 59 = .ok (.iaload, 1) := by decide +kernel
theorem dX7_wave_60 : decode cX7_wave 60 = .ok (.if_icmp .lt 7, 3) := by decide +kernel
theorem dX7_wave_63 : decode cX7_wave 63 = .ok (.iconst 1, 1) := by decide +kernel
theorem dX7_wave_64 : decode cX7_wave 64 = .ok (.goto 4, 3) := by decide +kernel
theorem dX7_wave_67 : decode cX7_wave 67 = .ok (.iconst 0, 1) := by decide +kernel
theorem dX7_wave_68 : decode cX7_wave 68 = .ok (.iadd, 1) := by decide +kernel
theorem dX7_wave_69 : decode cX7_wave 69 = .ok (.istore_n 3, 1) := by decide +kernel
theorem dX7_wave_70 : decode cX7_wave 70 = .ok (.iinc 4 1, 3) := by decide +kernel
theorem dX7_wave_73 : decode cX7_wave 73 = .ok (.goto (-33), 3) := by decide +kernel
theorem dX7_wave_76 : decode cX7_wave 76 = .ok (.aload_n 0, 1) := by decide +kernel
theorem dX7_wave_77 : decode cX7_wave 77 = .ok (.getfield 88, 3) := by decide +kernel
theorem dX7_wave_80 : decode cX7_wave 80 = .ok (.iload_n 2, 1) := by decide +kernel
theorem dX7_wave_81 : decode cX7_wave 81 = .ok (.iaload, 1) := by decide +kernel
theorem dX7_wave_82 : decode cX7_wave 82 = .ok (.iconst 2, 1) := by decide +kernel
theorem dX7_wave_83 : decode cX7_wave 83 = .ok (.if_icmp .lt 17, 3) := by decide +kernel
theorem dX7_wave_86 : decode cX7_wave 86 = .ok (.bipush 20, 2) := by decide +kernel
theorem dX7_wave_88 : decode cX7_wave 88 = .ok (.iload_n 3, 1) := by decide +kernel
theorem dX7_wave_89 : decode cX7_wave 89 = .ok (.iconst 1, 1) := by decide +kernel
theorem dX7_wave_90 : decode cX7_wave 90 = .ok (.iadd, 1) := by decide +kernel
theorem dX7_wave_91 : decode cX7_wave 91 = .ok (.imul, 1) := by decide +kernel
theorem dX7_wave_92 : decode cX7_wave 92 = .ok (.iload_n 2, 1) := by decide +kernel
theorem dX7_wave_93 : decode cX7_wave 93 = .ok (.iconst 1, 1) := by decide +kernel
theorem dX7_wave_94 : decode cX7_wave 94 = .ok (.iadd, 1) := by decide +kernel
theorem dX7_wave_95 : decode cX7_wave 95 = .ok (.if_icmp .gt 5, 3) := by decide +kernel
theorem dX7_wave_98 : decode cX7_wave 98 = .ok (.iload_n 2, 1) := by decide +kernel
theorem dX7_wave_99 : decode cX7_wave 99 = .ok (.ireturn, 1) := by decide +kernel
theorem dX7_wave_100 : decode cX7_wave 100 = .ok (.iinc 2 1, 3) := by decide +kernel
theorem dX7_wave_103 : decode cX7_wave 103 = .ok (.goto (-76), 3) := by decide +kernel
theorem dX7_wave_106 : decode cX7_wave 106 = .ok (.iconst (-1), 1) := by decide +kernel
theorem dX7_wave_107 : decode cX7_wave 107 = .ok (.ireturn, 1) := by decide +kernel
theorem dX7_count_0 : decode cX7_count 0 = .ok (.aload_n 0, 1) := by decide +kernel
theorem dX7_count_1 : decode cX7_count 1 = .ok (.iconst 0, 1) := by decide +kernel
theorem dX7_count_2 : decode cX7_count 2 = .ok (.putfield 91, 3) := by decide +kernel
theorem dX7_count_5 : decode cX7_count 5 = .ok (.iconst 0, 1) := by decide +kernel
theorem dX7_count_6 : decode cX7_count 6 = .ok (.istore_n 2, 1) := by decide +kernel
theorem dX7_count_7 : decode cX7_count 7 = .ok (.iload_n 1, 1) := by decide +kernel
theorem dX7_count_8 : decode cX7_count 8 = .ok (.tableswitch 274 0 8 #[52, 57, 62, 67, 101, 128, 128, 128, 269], 52) := by decide +kernel
theorem dX7_count_60 : decode cX7_count 60 = .ok (.aload_n 0, 1) := by decide +kernel
theorem dX7_count_61 : decode cX7_count 61 = .ok (.getfield 201, 3) := by decide +kernel
theorem dX7_count_64 : decode cX7_count 64 = .ok (.ireturn, 1) := by decide +kernel
theorem dX7_count_65 : decode cX7_count 65 = .ok (.aload_n 0, 1) := by decide +kernel
theorem dX7_count_66 : decode cX7_count 66 = .ok (.getfield 94, 3) := by decide +kernel
theorem dX7_count_69 : decode cX7_count 69 = .ok (.ireturn, 1) := by decide +kernel
theorem dX7_count_70 : decode cX7_count 70 = .ok (.aload_n 0, 1) := by decide +kernel
theorem dX7_count_71 : decode cX7_count 71 = .ok (.getfield 101, 3) := by decide +kernel
theorem dX7_count_74 : decode cX7_count 74 = .ok (.ireturn, 1) := by decide +kernel
theorem dX7_count_75 : decode cX7_count 75 = .ok (.iconst 0, 1) := by decide +kernel
theorem dX7_count_76 : decode cX7_count 76 = .ok (.istore_n 3, 1) := by decide +kernel
theorem dX7_count_77 : decode cX7_count 77 = .ok (.iload_n 3, 1) := by decide +kernel
theorem dX7_count_78 : decode cX7_count 78 = .ok (.aload_n 0, 1) := by decide +kernel
theorem dX7_count_79 : decode cX7_count 79 = .ok (.getfield 101, 3) := by decide +kernel
theorem dX7_count_82 : decode cX7_count 82 = .ok (.if_icmp .ge 25, 3) := by decide +kernel
theorem dX7_count_85 : decode cX7_count 85 = .ok (.iload_n 2, 1) := by decide +kernel
theorem dX7_count_86 : decode cX7_count 86 = .ok (.aload_n 0, 1) := by decide +kernel
theorem dX7_count_87 : decode cX7_count 87 = .ok (.iload_n 3, 1) := by decide +kernel
theorem dX7_count_88 : decode cX7_count 88 = .ok (.invokevirtual 225, 3) := by decide +kernel
theorem dX7_count_91 : decode cX7_count 91 = .ok (.ifCond .eq 7, 3) := by decide +kernel
theorem dX7_count_94 : decode cX7_count 94 = .ok (.iconst 1, 1) := by decide +kernel
theorem dX7_count_95 : decode cX7_count 95 = .ok (.goto 4, 3) := by decide +kernel
theorem dX7_count_98 : decode cX7_count 98 = .ok (.iconst 0, 1) := by decide +kernel
theorem dX7_count_99 : decode cX7_count 99 = .ok (.iadd, 1) := by decide +kernel
theorem dX7_count_100 : decode cX7_count 100 = .ok (.istore_n 2, 1) := by decide +kernel
theorem dX7_count_101 : decode cX7_count 101 = .ok (.iinc 3 1, 3) := by decide +kernel
theorem dX7_count_104 : decode cX7_count 104 = .ok (.goto (-27), 3) := by decide +kernel
theorem dX7_count_107 : decode cX7_count 107 = .ok (.iload_n 2, 1) := by decide +kernel
theorem dX7_count_108 : decode cX7_count 108 = .ok (.ireturn, 1) := by decide +kernel
theorem dX7_count_109 : decode cX7_count 109 = .ok (.iconst 0, 1) := by decide +kernel
theorem dX7_count_110 : decode cX7_count 110 = .ok (.istore_n 3, 1) := by decide +kernel
theorem dX7_count_111 : decode cX7_count 111 = .ok (.iload_n 3, 1) := by decide +kernel
theorem dX7_count_112 : decode cX7_count 112 = .ok (.aload_n 0, 1) := by decide +kernel
theorem dX7_count_113 : decode cX7_count 113 = .ok (.getfield 101, 3) := by decide +kernel
theorem dX7_count_116 : decode cX7_count 116 = .ok (.if_icmp .ge 18, 3) := by decide +kernel
theorem dX7_count_119 : decode cX7_count 119 = .ok (.iload_n 2, 1) := by decide +kernel
theorem dX7_count_120 : decode cX7_count 120 = .ok (.aload_n 0, 1) := by decide +kernel
theorem dX7_count_121 : decode cX7_count 121 = .ok (.getfield 48, 3) := by decide +kernel
theorem dX7_count_124 : decode cX7_count 124 = .ok (.iload_n 3, 1) := by decide +kernel
theorem dX7_count_125 : decode cX7_count 125 = .ok (.iaload, 1) := by decide +kernel
theorem dX7_count_126 : decode cX7_count 126 = .ok (.iadd, 1) := by decide +kernel
theorem dX7_count_127 : decode cX7_count 127 = .ok (.istore_n 2, 1) := by decide +kernel
theorem dX7_count_128 : decode cX7_count 128 = .ok (.iinc 3 1, 3) := by decide +kernel
theorem dX7_count_131 : decode cX7_count 131 = .ok (.goto (-20), 3) := by decide +kernel
theorem dX7_count_134 : decode cX7_count 134 = .ok (.iload_n 2, 1) := by decide +kernel
theorem dX7_count_135 : decode cX7_count 135 = .ok (.ireturn, 1) := by decide +kernel
theorem dX7_count_136 : decode cX7_count 136 = .ok (.iconst 0, 1) := by decide +kernel
theorem dX7_count_137 : decode cX7_count 137 = .ok (.istore_n 3, 1) := by decide +kernel
theorem dX7_count_138 : decode cX7_count 138 = .ok (.iload_n 3, 1) := by decide +kernel
theorem dX7_count_139 : decode cX7_count 139 = .ok (.aload_n 0, 1) := by decide +kernel
theorem dX7_count_140 : decode cX7_count 140 = .ok (.getfield 101, 3) := by decide +kernel
theorem dX7_count_143 : decode cX7_count 143 = .ok (.if_icmp .ge 132, 3) := by decide +kernel
theorem dX7_count_146 : decode cX7_count 146 = .ok (.iconst 0, 1) := by decide +kernel
theorem dX7_count_147 : decode cX7_count 147 = .ok (.istore 4, 2) := by decide +kernel
theorem dX7_count_149 : decode cX7_count 149 = .ok (.iload 4, 2) := by decide +kernel
theorem dX7_count_151 : decode cX7_count 151 = .ok (.aload_n 0, 1) := by decide +kernel
theorem dX7_count_152 : decode cX7_count 152 = .ok (.getfield 48, 3) := by decide +kernel
theorem dX7_count_155 : decode cX7_count 155 = .ok (.iload_n 3, 1) := by decide +kernel
theorem dX7_count_156 : decode cX7_count 156 = .ok (.iaload, 1) := by decide +kernel
theorem dX7_count_157 : decode cX7_count 157 = .ok (.if_icmp .ge 112, 3) := by decide +kernel
theorem dX7_count_160 : decode cX7_count 160 = .ok (.bipush 6, 2) := by decide +kernel
theorem dX7_count_162 : decode cX7_count 162 = .ok (.iload_n 3, 1) := by decide +kernel
theorem dX7_count_163 : decode cX7_count 163 = .ok (.imul, 1) := by decide +kernel
theorem dX7_count_164 : decode cX7_count 164 = .ok (.iload 4, 2) := by decide +kernel
theorem dX7_count_166 : decode cX7_count 166 = .ok (.iadd, 1) := by decide +kernel
theorem dX7_count_167 : decode cX7_count 167 = .ok (.istore 5, 2) := by decide +kernel
theorem dX7_count_169 : decode cX7_count 169 = .ok (.aload_n 0, 1) := by decide +kernel
theorem dX7_count_170 : decode cX7_count 170 = .ok (.getfield 72, 3) := by decide +kernel
theorem dX7_count_173 : decode cX7_count 173 = .ok (.iload 5, 2) := by decide +kernel
theorem dX7_count_175 : decode cX7_count 175 = .ok (.iaload, 1) := by decide +kernel
theorem dX7_count_176 : decode cX7_count 176 = .ok (.ifCond .lt 7, 3) := by decide +kernel
theorem dX7_count_179 : decode cX7_count 179 = .ok (.iconst 1, 1) := by decide +kernel
theorem dX7_count_180 : decode cX7_count 180 = .ok (.goto 4, 3) := by decide +kernel
theorem dX7_count_183 : decode cX7_count 183 = .ok (.iconst 0, 1) := by decide +kernel
theorem dX7_count_184 : decode cX7_count 184 = .ok (.istore 6, 2) := by decide +kernel
theorem dX7_count_186 : decode cX7_count 186 = .ok (.iload_n 2, 1) := by decide +kernel
theorem dX7_count_187 : decode cX7_count 187 = .ok (.iload_n 1, 1) := by decide +kernel
theorem dX7_count_188 : decode cX7_count 188 = .ok (.iconst 5, 1) := by decide +kernel
theorem dX7_count_189 : decode cX7_count 189 = .ok (.if_icmp .ne 21, 3) := by decide +kernel
theorem dX7_count_192 : decode cX7_count 192 = .ok (.iload 6, 2) := by decide +kernel
theorem dX7_count_194 : decode cX7_count 194 = .ok (.ifCond .ne 66, 3) := by decide +kernel
theorem dX7_count_197 : decode cX7_count 197 = .ok (.aload_n 0, 1) := by decide +kernel
theorem dX7_count_198 : decode cX7_count 198 = .ok (.getfield 66, 3) := by decide +kernel
theorem dX7_count_201 : decode cX7_count 201 = .ok (.iload 5, 2) := by decide +kernel
theorem dX7_count_203 : decode cX7_count 203 = .ok (.iaload, 1) := by decide +kernel
theorem dX7_count_204 : decode cX7_count 204 = .ok (.ifCond .ge 56, 3) := by decide +kernel
theorem dX7_count_207 : decode cX7_count 207 = .ok (.goto 49, 3) := by decide +kernel
theorem dX7_count_210 : decode cX7_count 210 = .ok (.iload_n 1, 1) := by decide +kernel
theorem dX7_count_211 : decode cX7_count 211 = .ok (.bipush 6, 2) := by decide +kernel
theorem dX7_count_213 : decode cX7_count 213 = .ok (.if_icmp .ne 11, 3) := by decide +kernel
theorem dX7_count_216 : decode cX7_count 216 = .ok (.iload 6, 2) := by decide +kernel
theorem dX7_count_218 : decode cX7_count 218 = .ok (.ifCond .eq 42, 3) := by decide +kernel
theorem dX7_count_221 : decode cX7_count 221 = .ok (.goto 35, 3) := by decide +kernel
theorem dX7_count_224 : decode cX7_count 224 = .ok (.iload 6, 2) := by decide +kernel
theorem dX7_count_226 : decode cX7_count 226 = .ok (.ifCond .eq 34, 3) := by decide +kernel
theorem dX7_count_229 : decode cX7_count 229 = .ok (.aload_n 0, 1) := by decide +kernel
theorem dX7_count_230 : decode cX7_count 230 = .ok (.getfield 66, 3) := by decide +kernel
theorem dX7_count_233 : decode cX7_count 233 = .ok (.iload 5, 2) := by decide +kernel
theorem dX7_count_235 : decode cX7_count 235 = .ok (.iaload, 1) := by decide +kernel
theorem dX7_count_236 : decode cX7_count 236 = .ok (.ifCond .lt 24, 3) := by decide +kernel
theorem dX7_count_239 : decode cX7_count 239 = .ok (.aload_n 0, 1) := by decide +kernel
theorem dX7_count_240 : decode cX7_count 240 = .ok (.getfield 72, 3) := by decide +kernel
theorem dX7_count_243 : decode cX7_count 243 = .ok (.iload 5, 2) := by decide +kernel
theorem dX7_count_245 : decode cX7_count 245 = .ok (.iaload, 1) := by decide +kernel
theorem dX7_count_246 : decode cX7_count 246 = .ok (.aload_n 0, 1) := by decide +kernel
theorem dX7_count_247 : decode cX7_count 247 = .ok (.getfield 69, 3) := by decide +kernel
theorem dX7_count_250 : decode cX7_count 250 = .ok (.iload 5, 2) := by decide +kernel
theorem dX7_count_252 : decode cX7_count 252 = .ok (.iaload, 1) := by decide +kernel
theorem dX7_count_253 : decode cX7_count 253 = .ok (.if_icmp .le 7, 3) := by decide +kernel
theorem dX7_count_256 : decode cX7_count 256 = .ok (.iconst 1, 1) := by decide +kernel
theorem dX7_count_257 : decode cX7_count 257 = .ok (.goto 4, 3) := by decide +kernel
theorem dX7_count_260 : decode cX7_count 260 = .ok (.iconst 0, 1) := by decide +kernel
theorem dX7_count_261 : decode cX7_count 261 = .ok (.iadd, 1) := by decide +kernel
theorem dX7_count_262 : decode cX7_count 262 = .ok (.istore_n 2, 1) := by decide +kernel
theorem dX7_count_263 : decode cX7_count 263 = .ok (.iinc 4 1, 3) := by decide +kernel
theorem dX7_count_266 : decode cX7_count 266 = .ok (.goto (-117), 3) := by decide +kernel
theorem dX7_count_269 : decode cX7_count 269 = .ok (.iinc 3 1, 3) := by decide +kernel
theorem dX7_count_272 : decode cX7_count 272 = .ok (.goto (-134), 3) := by decide +kernel
theorem dX7_count_275 : decode cX7_count 275 = .ok (.iload_n 2, 1) := by decide +kernel
theorem dX7_count_276 : decode cX7_count 276 = .ok (.ireturn, 1) := by decide +kernel
theorem dX7_count_277 : decode cX7_count 277 = .ok (.aload_n 0, 1) := by decide +kernel
theorem dX7_count_278 : decode cX7_count 278 = .ok (.getfield 217, 3) := by decide +kernel
theorem dX7_count_281 : decode cX7_count 281 = .ok (.ireturn, 1) := by decide +kernel
theorem dX7_count_282 : decode cX7_count 282 = .ok (.iconst (-1), 1) := by decide +kernel
theorem dX7_count_283 : decode cX7_count 283 = .ok (.ireturn, 1) := by decide +kernel
