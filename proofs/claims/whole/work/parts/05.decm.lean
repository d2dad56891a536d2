theorem dX7_init_0 : decode cX7_init 0 = .ok (.aload_n 0, 1) := by decide +kernel
theorem dX7_init_1 : decode cX7_init 1 = .ok (.invokespecial 1, 3) := by decide +kernel
theorem dX7_init_4 : decode cX7_init 4 = .ok (.aload_n 0, 1) := by decide +kernel
theorem dX7_init_5 : decode cX7_init 5 = .ok (.bipush 6, 2) := by decide +kernel
theorem dX7_init_7 : decode cX7_init 7 = .ok (.newarray .int, 2) := by decide +kernel
theorem dX7_init_9 : decode cX7_init 9 = .ok (.putfield 7, 3) := by decide +kernel
theorem dX7_init_12 : decode cX7_init 12 = .ok (.aload_n 0, 1) := by decide +kernel
theorem dX7_init_13 : decode cX7_init 13 = .ok (.bipush 6, 2) := by decide +kernel
theorem dX7_init_15 : decode cX7_init 15 = .ok (.newarray .int, 2) := by decide +kernel
theorem dX7_init_17 : decode cX7_init 17 = .ok (.putfield 13, 3) := by decide +kernel
theorem dX7_init_20 : decode cX7_init 20 = .ok (.aload_n 0, 1) := by decide +kernel
theorem dX7_init_21 : decode cX7_init 21 = .ok (.bipush 6, 2) := by decide +kernel
theorem dX7_init_23 : decode cX7_init 23 = .ok (.newarray .int, 2) := by decide +kernel
theorem dX7_init_25 : decode cX7_init 25 = .ok (.putfield 16, 3) := by decide +kernel
theorem dX7_init_28 : decode cX7_init 28 = .ok (.aload_n 0, 1) := by decide +kernel
theorem dX7_init_29 : decode cX7_init 29 = .ok (.bipush 6, 2) := by decide +kernel
theorem dX7_init_31 : decode cX7_init 31 = .ok (.newarray .int, 2) := by decide +kernel
theorem dX7_init_33 : decode cX7_init 33 = .ok (.putfield 19, 3) := by decide +kernel
theorem dX7_init_36 : decode cX7_init 36 = .ok (.aload_n 0, 1) := by decide +kernel
theorem dX7_init_37 : decode cX7_init 37 = .ok (.iconst 5, 1) := by decide +kernel
theorem dX7_init_38 : decode cX7_init 38 = .ok (.newarray .int, 2) := by decide +kernel
theorem dX7_init_40 : decode cX7_init 40 = .ok (.putfield 22, 3) := by decide +kernel
theorem dX7_init_43 : decode cX7_init 43 = .ok (.aload_n 0, 1) := by decide +kernel
theorem dX7_init_44 : decode cX7_init 44 = .ok (.bipush 20, 2) := by decide +kernel
theorem dX7_init_46 : decode cX7_init 46 = .ok (.newarray .int, 2) := by decide +kernel
theorem dX7_init_48 : decode cX7_init 48 = .ok (.putfield 25, 3) := by decide +kernel
theorem dX7_init_51 : decode cX7_init 51 = .ok (.aload_n 0, 1) := by decide +kernel
theorem dX7_init_52 : decode cX7_init 52 = .ok (.bipush 20, 2) := by decide +kernel
theorem dX7_init_54 : decode cX7_init 54 = .ok (.newarray .int, 2) := by decide +kernel
theorem dX7_init_56 : decode cX7_init 56 = .ok (.putfield 28, 3) := by decide +kernel
theorem dX7_init_59 : decode cX7_init 59 = .ok (.aload_n 0, 1) := by decide +kernel
theorem dX7_init_60 : decode cX7_init 60 = .ok (.bipush 20, 2) := by decide +kernel
theorem dX7_init_62 : decode cX7_init 62 = .ok (.newarray .int, 2) := by decide +kernel
theorem dX7_init_64 : decode cX7_init 64 = .ok (.putfield 31, 3) := by decide +kernel
theorem dX7_init_67 : decode cX7_init 67 = .ok (.aload_n 0, 1) := by decide +kernel
theorem dX7_init_68 : decode cX7_init 68 = .ok (.bipush 20, 2) := by decide +kernel
theorem dX7_init_70 : decode cX7_init 70 = .ok (.newarray .int, 2) := by decide +kernel
theorem dX7_init_72 : decode cX7_init 72 = .ok (.putfield 34, 3) := by decide +kernel
theorem dX7_init_75 : decode cX7_init 75 = .ok (.aload_n 0, 1) := by decide +kernel
theorem dX7_init_76 : decode cX7_init 76 = .ok (.bipush 20, 2) := by decide +kernel
theorem dX7_init_78 : decode cX7_init 78 = .ok (.newarray .int, 2) := by decide +kernel
theorem dX7_init_80 : decode cX7_init 80 = .ok (.putfield 37, 3) := by decide +kernel
theorem dX7_init_83 : decode cX7_init 83 = .ok (.aload_n 0, 1) := by decide +kernel
theorem dX7_init_84 : decode cX7_init 84 = .ok (.bipush 20, 2) := by decide +kernel
theorem dX7_init_86 : decode cX7_init 86 = .ok (.newarray .char, 2) := by decide +kernel
theorem dX7_init_88 : decode cX7_init 88 = .ok (.putfield 40, 3) := by decide +kernel
theorem dX7_init_91 : decode cX7_init 91 = .ok (.aload_n 0, 1) := by decide +kernel
theorem dX7_init_92 : decode cX7_init 92 = .ok (.bipush 20, 2) := by decide +kernel
theorem dX7_init_94 : decode cX7_init 94 = .ok (.newarray .int, 2) := by decide +kernel
theorem dX7_init_96 : decode cX7_init 96 = .ok (.putfield 44, 3) := by decide +kernel
theorem dX7_init_99 : decode cX7_init 99 = .ok (.aload_n 0, 1) := by decide +kernel
theorem dX7_init_100 : decode cX7_init 100 = .ok (.bipush 20, 2) := by decide +kernel
theorem dX7_init_102 : decode cX7_init 102 = .ok (.newarray .boolean, 2) := by decide +kernel
theorem dX7_init_104 : decode cX7_init 104 = .ok (.putfield 47, 3) := by decide +kernel
theorem dX7_init_107 : decode cX7_init 107 = .ok (.aload_n 0, 1) := by decide +kernel
theorem dX7_init_108 : decode cX7_init 108 = .ok (.bipush 20, 2) := by decide +kernel
theorem dX7_init_110 : decode cX7_init 110 = .ok (.newarray .boolean, 2) := by decide +kernel
theorem dX7_init_112 : decode cX7_init 112 = .ok (.putfield 51, 3) := by decide +kernel
theorem dX7_init_115 : decode cX7_init 115 = .ok (.aload_n 0, 1) := by decide +kernel
theorem dX7_init_116 : decode cX7_init 116 = .ok (.bipush 20, 2) := by decide +kernel
theorem dX7_init_118 : decode cX7_init 118 = .ok (.newarray .int, 2) := by decide +kernel
theorem dX7_init_120 : decode cX7_init 120 = .ok (.putfield 54, 3) := by decide +kernel
theorem dX7_init_123 : decode cX7_init 123 = .ok (.aload_n 0, 1) := by decide +kernel
theorem dX7_init_124 : decode cX7_init 124 = .ok (.bipush 20, 2) := by decide +kernel
theorem dX7_init_126 : decode cX7_init 126 = .ok (.newarray .int, 2) := by decide +kernel
theorem dX7_init_128 : decode cX7_init 128 = .ok (.putfield 57, 3) := by decide +kernel
theorem dX7_init_131 : decode cX7_init 131 = .ok (.aload_n 0, 1) := by decide +kernel
theorem dX7_init_132 : decode cX7_init 132 = .ok (.bipush 20, 2) := by decide +kernel
theorem dX7_init_134 : decode cX7_init 134 = .ok (.newarray .boolean, 2) := by decide +kernel
theorem dX7_init_136 : decode cX7_init 136 = .ok (.putfield 60, 3) := by decide +kernel
theorem dX7_init_139 : decode cX7_init 139 = .ok (.aload_n 0, 1) := by decide +kernel
theorem dX7_init_140 : decode cX7_init 140 = .ok (.bipush 20, 2) := by decide +kernel
theorem dX7_init_142 : decode cX7_init 142 = .ok (.newarray .int, 2) := by decide +kernel
theorem dX7_init_144 : decode cX7_init 144 = .ok (.putfield 63, 3) := by decide +kernel
theorem dX7_init_147 : decode cX7_init 147 = .ok (.aload_n 0, 1) := by decide +kernel
theorem dX7_init_148 : decode cX7_init 148 = .ok (.bipush 20, 2) := by decide +kernel
theorem dX7_init_150 : decode cX7_init 150 = .ok (.newarray .boolean, 2) := by decide +kernel
theorem dX7_init_152 : decode cX7_init 152 = .ok (.putfield 66, 3) := by decide +kernel
theorem dX7_init_155 : decode cX7_init 155 = .ok (.aload_n 0, 1) := by decide +kernel
theorem dX7_init_156 : decode cX7_init 156 = .ok (.bipush 20, 2) := by decide +kernel
theorem dX7_init_158 : decode cX7_init 158 = .ok (.newarray .int, 2) := by decide +kernel
theorem dX7_init_160 : decode cX7_init 160 = .ok (.putfield 69, 3) := by decide +kernel
theorem dX7_init_163 : decode cX7_init 163 = .ok (.aload_n 0, 1) := by decide +kernel
theorem dX7_init_164 : decode cX7_init 164 = .ok (.bipush 20, 2) := by decide +kernel
theorem dX7_init_166 : decode cX7_init 166 = .ok (.newarray .int, 2) := by decide +kernel
theorem dX7_init_168 : decode cX7_init 168 = .ok (.putfield 72, 3) := by decide +kernel
theorem dX7_init_171 : decode cX7_init 171 = .ok (.aload_n 0, 1) := by decide +kernel
theorem dX7_init_172 : decode cX7_init 172 = .ok (.bipush 20, 2) := by decide +kernel
theorem dX7_init_174 : decode cX7_init 174 = .ok (.newarray .int, 2) := by decide +kernel
theorem dX7_init_176 : decode cX7_init 176 = .ok (.putfield 75, 3) := by decide +kernel
theorem dX7_init_179 : decode cX7_init 179 = .ok (.aload_n 0, 1) := by decide +kernel
theorem dX7_init_180 : decode cX7_init 180 = .ok (.bipush 20, 2) := by decide +kernel
theorem dX7_init_182 : decode cX7_init 182 = .ok (.newarray .int, 2) := by decide +kernel
theorem dX7_init_184 : decode cX7_init 184 = .ok (.putfield 78, 3) := by decide +kernel
theorem dX7_init_187 : decode cX7_init 187 = .ok (.aload_n 0, 1) := by decide +kernel
theorem dX7_init_188 : decode cX7_init 188 = .ok (.bipush 20, 2) := by decide +kernel
theorem dX7_init_190 : decode cX7_init 190 = .ok (.newarray .int, 2) := by decide +kernel
theorem dX7_init_192 : decode cX7_init 192 = .ok (.putfield 81, 3) := by decide +kernel
theorem dX7_init_195 : decode cX7_init 195 = .ok (.aload_n 0, 1) := by decide +kernel
theorem dX7_init_196 : decode cX7_init 196 = .ok (.bipush 20, 2) := by decide +kernel
theorem dX7_init_198 : decode cX7_init 198 = .ok (.newarray .int, 2) := by decide +kernel
theorem dX7_init_200 : decode cX7_init 200 = .ok (.putfield 84, 3) := by decide +kernel
theorem dX7_init_203 : decode cX7_init 203 = .ok (.iconst 0, 1) := by decide +kernel
theorem dX7_init_204 : decode cX7_init 204 = .ok (.istore_n 1, 1) := by decide +kernel
theorem dX7_init_205 : decode cX7_init 205 = .ok (.iload_n 1, 1) := by decide +kernel
theorem dX7_init_206 : decode cX7_init 206 = .ok (.iconst 5, 1) := by decide +kernel
theorem dX7_init_207 : decode cX7_init 207 = .ok (.if_icmp .ge 16, 3) := by decide +kernel
theorem dX7_init_210 : decode cX7_init 210 = .ok (.aload_n 0, 1) := by decide +kernel
theorem dX7_init_211 : decode cX7_init 211 = .ok (.getfield 22, 3) := by decide +kernel
theorem dX7_init_214 : decode cX7_init 214 = .ok (.iload_n 1, 1) := by decide +kernel
theorem dX7_init_215 : decode cX7_init 215 = .ok (.iconst 1, 1) := by decide +kernel
theorem dX7_init_216 : decode cX7_init 216 = .ok (.iastore, 1) := by decide +kernel
theorem dX7_init_217 : decode cX7_init 217 = .ok (.iinc 1 1, 3) := by decide +kernel
theorem dX7_init_220 : decode cX7_init 220 = .ok (.goto (-15), 3) := by decide +kernel
theorem dX7_init_223 : decode cX7_init 223 = .ok (.return_, 1) := by decide +kernel
theorem dX7_thrown_0 : decode cX7_thrown 0 = .ok (.aload_n 0, 1) := by decide +kernel
theorem dX7_thrown_1 : decode cX7_thrown 1 = .ok (.getfield 87, 3) := by decide +kernel
theorem dX7_thrown_4 : decode cX7_thrown 4 = .ok (.ireturn, 1) := by decide +kernel
theorem dX7_in_0 : decode cX7_in 0 = .ok (.iload_n 0, 1) := by decide +kernel
theorem dX7_in_1 : decode cX7_in 1 = .ok (.iload_n 1, 1) := by decide +kernel
theorem dX7_in_2 : decode cX7_in 2 = .ok (.if_icmp .lt 12, 3) := by decide +kernel
theorem dX7_in_5 : decode cX7_in 5 = .ok (.iload_n 0, 1) := by decide +kernel
theorem dX7_in_6 : decode cX7_in 6 = .ok (.iload_n 2, 1) := by decide +kernel
theorem dX7_in_7 : decode cX7_in 7 = .ok (.if_icmp .gt 7, 3) := by decide +kernel
theorem dX7_in_10 : decode cX7_in 10 = .ok (.iconst 1, 1) := by decide +kernel
theorem dX7_in_11 : decode cX7_in 11 = .ok (.goto 4, 3) := by decide +kernel
theorem dX7_in_14 : decode cX7_in 14 = .ok (.iconst 0, 1) := by decide +kernel
theorem dX7_in_15 : decode cX7_in 15 = .ok (.ireturn, 1) := by decide +kernel
theorem dX7_isOffice_0 : decode cX7_isOffice 0 = .ok (.iload_n 1, 1) := by decide +kernel
theorem dX7_isOffice_1 : decode cX7_isOffice 1 = .ok (.iconst 0, 1) := by decide +kernel
theorem dX7_isOffice_2 : decode cX7_isOffice 2 = .ok (.aload_n 0, 1) := by decide +kernel
theorem dX7_isOffice_3 : decode cX7_isOffice 3 = .ok (.getfield 91, 3) := by decide +kernel
theorem dX7_isOffice_6 : decode cX7_isOffice 6 = .ok (.iconst 1, 1) := by decide +kernel
theorem dX7_isOffice_7 : decode cX7_isOffice 7 = .ok (.isub, 1) := by decide +kernel
theorem dX7_isOffice_8 : decode cX7_isOffice 8 = .ok (.invokestatic 94, 3) := by decide +kernel
theorem dX7_isOffice_11 : decode cX7_isOffice 11 = .ok (.ireturn, 1) := by decide +kernel
theorem dX7_isComplaint_0 : decode cX7_isComplaint 0 = .ok (.iload_n 1, 1) := by decide +kernel
theorem dX7_isComplaint_1 : decode cX7_isComplaint 1 = .ok (.iconst 0, 1) := by decide +kernel
theorem dX7_isComplaint_2 : decode cX7_isComplaint 2 = .ok (.aload_n 0, 1) := by decide +kernel
theorem dX7_isComplaint_3 : decode cX7_isComplaint 3 = .ok (.getfield 98, 3) := by decide +kernel
theorem dX7_isComplaint_6 : decode cX7_isComplaint 6 = .ok (.iconst 1, 1) := by decide +kernel
theorem dX7_isComplaint_7 : decode cX7_isComplaint 7 = .ok (.isub, 1) := by decide +kernel
theorem dX7_isComplaint_8 : decode cX7_isComplaint 8 = .ok (.invokestatic 94, 3) := by decide +kernel
theorem dX7_isComplaint_11 : decode cX7_isComplaint 11 = .ok (.ireturn, 1) := by decide +kernel
theorem dX7_noComplaint_0 : decode cX7_noComplaint 0 = .ok (.aload_n 0, 1) := by decide +kernel
theorem dX7_noComplaint_1 : decode cX7_noComplaint 1 = .ok (.aload_n 0, 1) := by decide +kernel
theorem dX7_noComplaint_2 : decode cX7_noComplaint 2 = .ok (.iload_n 1, 1) := by decide +kernel
theorem dX7_noComplaint_3 : decode cX7_noComplaint 3 = .ok (.invokevirtual 101, 3) := by decide +kernel
theorem dX7_noComplaint_6 : decode cX7_noComplaint 6 = .ok (.ifCond .eq 7, 3) := by decide +kernel
theorem dX7_noComplaint_9 : decode cX7_noComplaint 9 = .ok (.iconst 0, 1) := by decide +kernel
theorem dX7_noComplaint_10 : decode cX7_noComplaint 10 = .ok (.goto 4, 3) := by decide +kernel
theorem dX7_noComplaint_13 : decode cX7_noComplaint 13 = .ok (.iconst 1, 1) := by decide +kernel
theorem dX7_noComplaint_14 : decode cX7_noComplaint 14 = .ok (.putfield 87, 3) := by decide +kernel
theorem dX7_noComplaint_17 : decode cX7_noComplaint 17 = .ok (.aload_n 0, 1) := by decide +kernel
theorem dX7_noComplaint_18 : decode cX7_noComplaint 18 = .ok (.getfield 87, 3) := by decide +kernel
theorem dX7_noComplaint_21 : decode cX7_noComplaint 21 = .ok (.ifCond .le 7, 3) := by decide +kernel
theorem dX7_noComplaint_24 : decode cX7_noComplaint 24 = .ok (.iconst 1, 1) := by decide +kernel
theorem dX7_noComplaint_25 : decode cX7_noComplaint 25 = .ok (.goto 4, 3) := by decide +kernel
theorem dX7_noComplaint_28 : decode cX7_noComplaint 28 = .ok (.iconst 0, 1) := by decide +kernel
theorem dX7_noComplaint_29 : decode cX7_noComplaint 29 = .ok (.ireturn, 1) := by decide +kernel
theorem dX7_isJoined_0 : decode cX7_isJoined 0 = .ok (.aload_n 0, 1) := by decide +kernel
theorem dX7_isJoined_1 : decode cX7_isJoined 1 = .ok (.getfield 44, 3) := by decide +kernel
theorem dX7_isJoined_4 : decode cX7_isJoined 4 = .ok (.iload_n 1, 1) := by decide +kernel
theorem dX7_isJoined_5 : decode cX7_isJoined 5 = .ok (.iaload, 1) := by decide +kernel
theorem dX7_isJoined_6 : decode cX7_isJoined 6 = .ok (.iconst (-1), 1) := by decide +kernel
theorem dX7_isJoined_7 : decode cX7_isJoined 7 = .ok (.if_icmp .eq 7, 3) := by decide +kernel
theorem dX7_isJoined_10 : decode cX7_isJoined 10 = .ok (.iconst 1, 1) := by decide +kernel
theorem dX7_isJoined_11 : decode cX7_isJoined 11 = .ok (.goto 4, 3) := by decide +kernel
theorem dX7_isJoined_14 : decode cX7_isJoined 14 = .ok (.iconst 0, 1) := by decide +kernel
theorem dX7_isJoined_15 : decode cX7_isJoined 15 = .ok (.ireturn, 1) := by decide +kernel
theorem dX7_leading_0 : decode cX7_leading 0 = .ok (.aload_n 0, 1) := by decide +kernel
theorem dX7_leading_1 : decode cX7_leading 1 = .ok (.iload_n 1, 1) := by decide +kernel
theorem dX7_leading_2 : decode cX7_leading 2 = .ok (.invokevirtual 105, 3) := by decide +kernel
theorem dX7_leading_5 : decode cX7_leading 5 = .ok (.ifCond .eq 12, 3) := by decide +kernel
theorem dX7_leading_8 : decode cX7_leading 8 = .ok (.aload_n 0, 1) := by decide +kernel
theorem dX7_leading_9 : decode cX7_leading 9 = .ok (.getfield 44, 3) := by decide +kernel
theorem dX7_leading_12 : decode cX7_leading 12 = .ok (.iload_n 1, 1) := by decide +kernel
theorem dX7_leading_13 : decode cX7_leading 13 = .ok (.iaload, 1) := by decide +kernel
theorem dX7_leading_14 : decode cX7_leading 14 = .ok (.goto 4, 3) := by decide +kernel
theorem dX7_leading_17 : decode cX7_leading 17 = .ok (.iload_n 1, 1) := by decide +kernel
theorem dX7_leading_18 : decode cX7_leading 18 = .ok (.ireturn, 1) := by decide +kernel
theorem dX7_standing_0 : decode cX7_standing 0 = .ok (.aload_n 0, 1) := by decide +kernel
theorem dX7_standing_1 : decode cX7_standing 1 = .ok (.getfield 40, 3) := by decide +kernel
theorem dX7_standing_4 : decode cX7_standing 4 = .ok (.aload_n 0, 1) := by decide +kernel
theorem dX7_standing_5 : decode cX7_standing 5 = .ok (.iload_n 1, 1) := by decide +kernel
theorem dX7_standing_6 : decode cX7_standing 6 = .ok (.invokevirtual 108, 3) := by decide +kernel
theorem dX7_standing_9 : decode cX7_standing 9 = .ok (.caload, 1) := by decide +kernel
theorem dX7_standing_10 : decode cX7_standing 10 = .ok (.ireturn, 1) := by decide +kernel
theorem dX7_isClosed_0 : decode cX7_isClosed 0 = .ok (.iload_n 0, 1) := by decide +kernel
theorem dX7_isClosed_1 : decode cX7_isClosed 1 = .ok (.bipush 111, 2) := by decide +kernel
theorem dX7_isClosed_3 : decode cX7_isClosed 3 = .ok (.if_icmp .eq 33, 3) := by decide +kernel
theorem dX7_isClosed_6 : decode cX7_isClosed 6 = .ok (.iload_n 0, 1) := by decide +kernel
theorem dX7_isClosed_7 : decode cX7_isClosed 7 = .ok (.bipush 108, 2) := by decide +kernel
theorem dX7_isClosed_9 : decode cX7_isClosed 9 = .ok (.if_icmp .eq 27, 3) := by decide +kernel
theorem dX7_isClosed_12 : decode cX7_isClosed 12 = .ok (.iload_n 0, 1) := by decide +kernel
theorem dX7_isClosed_13 : decode cX7_isClosed 13 = .ok (.bipush 117, 2) := by decide +kernel
theorem dX7_isClosed_15 : decode cX7_isClosed 15 = .ok (.if_icmp .eq 21, 3) := by decide +kernel
theorem dX7_isClosed_18 : decode cX7_isClosed 18 = .ok (.iload_n 0, 1) := by decide +kernel
theorem dX7_isClosed_19 : decode cX7_isClosed 19 = .ok (.bipush 104, 2) := by decide +kernel
theorem dX7_isClosed_21 : decode cX7_isClosed 21 = .ok (.if_icmp .eq 15, 3) := by decide +kernel
theorem dX7_isClosed_24 : decode cX7_isClosed 24 = .ok (.iload_n 0, 1) := by decide +kernel
theorem dX7_isClosed_25 : decode cX7_isClosed 25 = .ok (.bipush 105, 2) := by decide +kernel
theorem dX7_isClosed_27 : decode cX7_isClosed 27 = .ok (.if_icmp .eq 9, 3) := by decide +kernel
theorem dX7_isClosed_30 : decode cX7_isClosed 30 = .ok (.iload_n 0, 1) := by decide +kernel
theorem dX7_isClosed_31 : decode cX7_isClosed 31 = .ok (.bipush 119, 2) := by decide +kernel
theorem dX7_isClosed_33 : decode cX7_isClosed 33 = .ok (.if_icmp .ne 7, 3) := by decide +kernel
theorem dX7_isClosed_36 : decode cX7_isClosed 36 = .ok (.iconst 1, 1) := by decide +kernel
theorem dX7_isClosed_37 : decode cX7_isClosed 37 = .ok (.goto 4, 3) := by decide +kernel
theorem dX7_isClosed_40 : decode cX7_isClosed 40 = .ok (.iconst 0, 1) := by decide +kernel
theorem dX7_isClosed_41 : decode cX7_isClosed 41 = .ok (.ireturn, 1) := by decide +kernel
theorem dX7_isState_0 : decode cX7_isState 0 = .ok (.iload_n 0, 1) := by decide +kernel
theorem dX7_isState_1 : decode cX7_isState 1 = .ok (.bipush 110, 2) := by decide +kernel
theorem dX7_isState_3 : decode cX7_isState 3 = .ok (.if_icmp .eq 40, 3) := by decide +kernel
theorem dX7_isState_6 : decode cX7_isState 6 = .ok (.iload_n 0, 1) := by decide +kernel
theorem dX7_isState_7 : decode cX7_isState 7 = .ok (.bipush 102, 2) := by decide +kernel
theorem dX7_isState_9 : decode cX7_isState 9 = .ok (.if_icmp .eq 34, 3) := by decide +kernel
theorem dX7_isState_12 : decode cX7_isState 12 = .ok (.iload_n 0, 1) := by decide +kernel
theorem dX7_isState_13 : decode cX7_isState 13 = .ok (.bipush 114, 2) := by decide +kernel
theorem dX7_isState_15 : decode cX7_isState 15 = .ok (.if_icmp .eq 28, 3) := by decide +kernel
theorem dX7_isState_18 : decode cX7_isState 18 = .ok (.iload_n 0, 1) := by decide +kernel
theorem dX7_isState_19 : decode cX7_isState 19 = .ok (.bipush 97, 2) := by decide +kernel
theorem dX7_isState_21 : decode cX7_isState 21 = .ok (.if_icmp .eq 22, 3) := by decide +kernel
theorem dX7_isState_24 : decode cX7_isState 24 = .ok (.iload_n 0, 1) := by decide +kernel
theorem dX7_isState_25 : decode cX7_isState 25 = .ok (.bipush 115, 2) := by decide +kernel
theorem dX7_isState_27 : decode cX7_isState 27 = .ok (.if_icmp .eq 16, 3) := by decide +kernel
theorem dX7_isState_30 : decode cX7_isState 30 = .ok (.iload_n 0, 1) := by decide +kernel
theorem dX7_isState_31 : decode cX7_isState 31 = .ok (.bipush 100, 2) := by decide +kernel
theorem dX7_isState_33 : decode cX7_isState 33 = .ok (.if_icmp .eq 10, 3) := by decide +kernel
theorem dX7_isState_36 : decode cX7_isState 36 = .ok (.iload_n 0, 1) := by decide +kernel
theorem dX7_isState_37 : decode cX7_isState 37 = .ok (.invokestatic 112, 3) := by decide +kernel
theorem dX7_isState_40 : decode cX7_isState 40 = .ok (.ifCond .eq 7, 3) := by decide +kernel
theorem dX7_isState_43 : decode cX7_isState 43 = .ok (.iconst 1, 1) := by decide +kernel
theorem dX7_isState_44 : decode cX7_isState 44 = .ok (.goto 4, 3) := by decide +kernel
theorem dX7_isState_47 : decode cX7_isState 47 = .ok (.iconst 0, 1) := by decide +kernel
theorem dX7_isState_48 : decode cX7_isState 48 = .ok (.ireturn, 1) := by decide +kernel
theorem dX7_joinedTo_0 : decode cX7_joinedTo 0 = .ok (.iconst 0, 1) := by decide +kernel
theorem dX7_joinedTo_1 : decode cX7_joinedTo 1 = .ok (.istore_n 2, 1) := by decide +kernel
theorem dX7_joinedTo_2 : decode cX7_joinedTo 2 = .ok (.iconst 0, 1) := by decide +kernel
theorem dX7_joinedTo_3 : decode cX7_joinedTo 3 = .ok (.istore_n 3, 1) := by decide +kernel
theorem dX7_joinedTo_4 : decode cX7_joinedTo 4 = .ok (.iload_n 3, 1) := by decide +kernel
theorem dX7_joinedTo_5 : decode cX7_joinedTo 5 = .ok (.aload_n 0, 1) := by decide +kernel
theorem dX7_joinedTo_6 : decode cX7_joinedTo 6 = .ok (.getfield 98, 3) := by decide +kernel
theorem dX7_joinedTo_9 : decode cX7_joinedTo 9 = .ok (.if_icmp .ge 27, 3) := by decide +kernel
theorem dX7_joinedTo_12 : decode cX7_joinedTo 12 = .ok (.iload_n 2, 1) := by decide +kernel
theorem dX7_joinedTo_13 : decode cX7_joinedTo 13 = .ok (.aload_n 0, 1) := by decide +kernel
theorem dX7_joinedTo_14 : decode cX7_joinedTo 14 = .ok (.getfield 44, 3) := by decide +kernel
theorem dX7_joinedTo_17 : decode cX7_joinedTo 17 = .ok (.iload_n 3, 1) := by decide +kernel
theorem dX7_joinedTo_18 : decode cX7_joinedTo 18 = .ok (.iaload, 1) := by decide +kernel
theorem dX7_joinedTo_19 : decode cX7_joinedTo 19 = .ok (.iload_n 1, 1) := by decide +kernel
theorem dX7_joinedTo_20 : decode cX7_joinedTo 20 = .ok (.if_icmp .ne 7, 3) := by decide +kernel
theorem dX7_joinedTo_23 : decode cX7_joinedTo 23 = .ok (.iconst 1, 1) := by decide +kernel
theorem dX7_joinedTo_24 : decode cX7_joinedTo 24 = .ok (.goto 4, 3) := by decide +kernel
theorem dX7_joinedTo_27 : decode cX7_joinedTo 27 = .ok (.iconst 0, 1) := by decide +kernel
theorem dX7_joinedTo_28 : decode cX7_joinedTo 28 = .ok (.iadd, 1) := by decide +kernel
theorem dX7_joinedTo_29 : decode cX7_joinedTo 29 = .ok (.istore_n 2, 1) := by decide +kernel
theorem dX7_joinedTo_30 : decode cX7_joinedTo 30 = .ok (.iinc 3 1, 3) := by decide +kernel
theorem dX7_joinedTo_33 : decode cX7_joinedTo 33 = .ok (.goto (-29), 3) := by decide +kernel
theorem dX7_joinedTo_36 : decode cX7_joinedTo 36 = .ok (.iload_n 2, 1) := by decide +kernel
theorem dX7_joinedTo_37 : decode cX7_joinedTo 37 = .ok (.ireturn, 1) := by decide +kernel
theorem dX7_closes_0 : decode cX7_closes 0 = .ok (.aload_n 0, 1) := by decide +kernel
theorem dX7_closes_1 : decode cX7_closes 1 = .ok (.getfield 40, 3) := by decide +kernel
theorem dX7_closes_4 : decode cX7_closes 4 = .ok (.iload_n 1, 1) := by decide +kernel
theorem dX7_closes_5 : decode cX7_closes 5 = .ok (.iload_n 2, 1) := by decide +kernel
theorem dX7_closes_6 : decode cX7_closes 6 = .ok (.castore, 1) := by decide +kernel
theorem dX7_closes_7 : decode cX7_closes 7 = .ok (.aload_n 0, 1) := by decide +kernel
theorem dX7_closes_8 : decode cX7_closes 8 = .ok (.getfield 81, 3) := by decide +kernel
theorem dX7_closes_11 : decode cX7_closes 11 = .ok (.iload_n 1, 1) := by decide +kernel
theorem dX7_closes_12 : decode cX7_closes 12 = .ok (.aload_n 0, 1) := by decide +kernel
theorem dX7_closes_13 : decode cX7_closes 13 = .ok (.getfield 116, 3) := by decide +kernel
theorem dX7_closes_16 : decode cX7_closes 16 = .ok (.iastore, 1) := by decide +kernel
theorem dX7_closes_17 : decode cX7_closes 17 = .ok (.return_, 1) := by decide +kernel
theorem dX7_addOffice_0 : decode cX7_addOffice 0 = .ok (.aload_n 0, 1) := by decide +kernel
theorem dX7_addOffice_1 : decode cX7_addOffice 1 = .ok (.iload_n 1, 1) := by decide +kernel
theorem dX7_addOffice_2 : decode cX7_addOffice 2 = .ok (.iconst 1, 1) := by decide +kernel
theorem dX7_addOffice_3 : decode cX7_addOffice 3 = .ok (.bipush 60, 2) := by decide +kernel
theorem dX7_addOffice_5 : decode cX7_addOffice 5 = .ok (.invokestatic 94, 3) := by decide +kernel
theorem dX7_addOffice_8 : decode cX7_addOffice 8 = .ok (.ifCond .eq 14, 3) := by decide +kernel
theorem dX7_addOffice_11 : decode cX7_addOffice 11 = .ok (.iload_n 2, 1) := by decide +kernel
theorem dX7_addOffice_12 : decode cX7_addOffice 12 = .ok (.iconst 0, 1) := by decide +kernel
theorem dX7_addOffice_13 : decode cX7_addOffice 13 = .ok (.sipush 1023, 3) := by decide +kernel
theorem dX7_addOffice_16 : decode cX7_addOffice 16 = .ok (.invokestatic 94, 3) := by decide +kernel
theorem dX7_addOffice_19 : decode cX7_addOffice 19 = .ok (.ifCond .ne 7, 3) := by decide +kernel
theorem dX7_addOffice_22 : decode cX7_addOffice 22 = .ok (.iconst 1, 1) := by decide +kernel
theorem dX7_addOffice_23 : decode cX7_addOffice 23 = .ok (.goto 17, 3) := by decide +kernel
theorem dX7_addOffice_26 : decode cX7_addOffice 26 = .ok (.aload_n 0, 1) := by decide +kernel
theorem dX7_addOffice_27 : decode cX7_addOffice 27 = .ok (.getfield 91, 3) := by decide +kernel
theorem dX7_addOffice_30 : decode cX7_addOffice 30 = .ok (.bipush 6, 2) := by decide +kernel
theorem dX7_addOffice_32 : decode cX7_addOffice 32 = .ok (.if_icmp .ne 7, 3) := by decide +kernel
theorem dX7_addOffice_35 : decode cX7_addOffice 35 = .ok (.iconst 2, 1) := by decide +kernel
theorem dX7_addOffice_36 : decode cX7_addOffice 36 = .ok (.goto 4, 3) := by decide +kernel
theorem dX7_addOffice_39 : decode cX7_addOffice 39 = .ok (.iconst 0, 1) := by decide +kernel
theorem dX7_addOffice_40 : decode cX7_addOffice 40 = .ok (.putfield 87, 3) := by decide +kernel
theorem dX7_addOffice_43 : decode cX7_addOffice 43 = .ok (.aload_n 0, 1) := by decide +kernel
theorem dX7_addOffice_44 : decode cX7_addOffice 44 = .ok (.getfield 87, 3) := by decide +kernel
theorem dX7_addOffice_47 : decode cX7_addOffice 47 = .ok (.ifCond .le 5, 3) := by decide +kernel
theorem dX7_addOffice_50 : decode cX7_addOffice 50 = .ok (.iconst 0, 1) := by decide +kernel
theorem dX7_addOffice_51 : decode cX7_addOffice 51 = .ok (.ireturn, 1) := by decide +kernel
theorem dX7_addOffice_52 : decode cX7_addOffice 52 = .ok (.aload_n 0, 1) := by decide +kernel
theorem dX7_addOffice_53 : decode cX7_addOffice 53 = .ok (.getfield 7, 3) := by decide +kernel
theorem dX7_addOffice_56 : decode cX7_addOffice 56 = .ok (.aload_n 0, 1) := by decide +kernel
theorem dX7_addOffice_57 : decode cX7_addOffice 57 = .ok (.getfield 91, 3) := by decide +kernel
theorem dX7_addOffice_60 : decode cX7_addOffice 60 = .ok (.iload_n 1, 1) := by decide +kernel
theorem dX7_addOffice_61 : decode cX7_addOffice 61 = .ok (.iastore, 1) := by decide +kernel
theorem dX7_addOffice_62 : decode cX7_addOffice 62 = .ok (.aload_n 0, 1) := by decide +kernel
theorem dX7_addOffice_63 : decode cX7_addOffice 63 = .ok (.getfield 13, 3) := by decide +kernel
theorem dX7_addOffice_66 : decode cX7_addOffice 66 = .ok (.aload_n 0, 1) := by decide +kernel
theorem dX7_addOffice_67 : decode cX7_addOffice 67 = .ok (.getfield 91, 3) := by decide +kernel
theorem dX7_addOffice_70 : decode cX7_addOffice 70 = .ok (.iload_n 2, 1) := by decide +kernel
theorem dX7_addOffice_71 : decode cX7_addOffice 71 = .ok (.iastore, 1) := by decide +kernel
theorem dX7_addOffice_72 : decode cX7_addOffice 72 = .ok (.aload_n 0, 1) := by decide +kernel
theorem dX7_addOffice_73 : decode cX7_addOffice 73 = .ok (.dup, 1) := by decide +kernel
theorem dX7_addOffice_74 : decode cX7_addOffice 74 = .ok (.getfield 91, 3) := by decide +kernel
theorem dX7_addOffice_77 : decode cX7_addOffice 77 = .ok (.iconst 1, 1) := by decide +kernel
theorem dX7_addOffice_78 : decode cX7_addOffice 78 = .ok (.iadd, 1) := by decide +kernel
theorem dX7_addOffice_79 : decode cX7_addOffice 79 = .ok (.putfield 91, 3) := by decide +kernel
theorem dX7_addOffice_82 : decode cX7_addOffice 82 = .ok (.aload_n 0, 1) := by decide +kernel
theorem dX7_addOffice_83 : decode cX7_addOffice 83 = .ok (.getfield 91, 3) := by decide +kernel
theorem dX7_addOffice_86 : decode cX7_addOffice 86 = .ok (.iconst 1, 1) := by decide +kernel
theorem dX7_addOffice_87 : decode cX7_addOffice 87 = .ok (.isub, 1) := by decide +kernel
theorem dX7_addOffice_88 : decode cX7_addOffice 88 = .ok (.ireturn, 1) := by decide +kernel
theorem dX7_pass_0 : decode cX7_pass 0 = .ok (.aload_n 0, 1) := by decide +kernel
theorem dX7_pass_1 : decode cX7_pass 1 = .ok (.iload_n 1, 1) := by decide +kernel
theorem dX7_pass_2 : decode cX7_pass 2 = .ok (.iconst 1, 1) := by decide +kernel
theorem dX7_pass_3 : decode cX7_pass 3 = .ok (.sipush 400, 3) := by decide +kernel
theorem dX7_pass_6 : decode cX7_pass 6 = .ok (.invokestatic 94, 3) := by decide +kernel
theorem dX7_pass_9 : decode cX7_pass 9 = .ok (.ifCond .ne 7, 3) := by decide +kernel
theorem dX7_pass_12 : decode cX7_pass 12 = .ok (.iconst 1, 1) := by decide +kernel
theorem dX7_pass_13 : decode cX7_pass 13 = .ok (.goto 20, 3) := by decide +kernel
theorem dX7_pass_16 : decode cX7_pass 16 = .ok (.aload_n 0, 1) := by decide +kernel
theorem dX7_pass_17 : decode cX7_pass 17 = .ok (.getfield 116, 3) := by decide +kernel
theorem dX7_pass_20 : decode cX7_pass 20 = .ok (.iload_n 1, 1) := by decide +kernel
theorem dX7_pass_21 : decode cX7_pass 21 = .ok (.iadd, 1) := by decide +kernel
theorem dX7_pass_22 : decode cX7_pass 22 = .ok (.sipush 9999, 3) := by decide +kernel
theorem dX7_pass_25 : decode cX7_pass 25 = .ok (.if_icmp .le 7, 3) := by decide +kernel
theorem dX7_pass_28 : decode cX7_pass 28 = .ok (.iconst 2, 1) := by decide +kernel
theorem dX7_pass_29 : decode cX7_pass 29 = .ok (.goto 4, 3) := by decide +kernel
theorem dX7_pass_32 : decode cX7_pass 32 = .ok (.iconst 0, 1) := by decide +kernel
theorem dX7_pass_33 : decode cX7_pass 33 = .ok (.putfield 87, 3) := by decide +kernel
theorem dX7_pass_36 : decode cX7_pass 36 = .ok (.aload_n 0, 1) := by decide +kernel
theorem dX7_pass_37 : decode cX7_pass 37 = .ok (.getfield 87, 3) := by decide +kernel
theorem dX7_pass_40 : decode cX7_pass 40 = .ok (.ifCond .le 5, 3) := by decide +kernel
theorem dX7_pass_43 : decode cX7_pass 43 = .ok (.iconst 0, 1) := by decide +kernel
theorem dX7_pass_44 : decode cX7_pass 44 = .ok (.ireturn, 1) := by decide +kernel
theorem dX7_pass_45 : decode cX7_pass 45 = .ok (.iconst 0, 1) := by decide +kernel
theorem dX7_pass_46 : decode cX7_pass 46 = .ok (.istore_n 2, 1) := by decide +kernel
theorem dX7_pass_47 : decode cX7_pass 47 = .ok (.iload_n 2, 1) := by decide +kernel
theorem dX7_pass_48 : decode cX7_pass 48 = .ok (.aload_n 0, 1) := by decide +kernel
theorem dX7_pass_49 : decode cX7_pass 49 = .ok (.getfield 98, 3) := by decide +kernel
theorem dX7_pass_52 : decode cX7_pass 52 = .ok (.if_icmp .ge 33, 3) := by decide +kernel
theorem dX7_pass_55 : decode cX7_pass 55 = .ok (.aload_n 0, 1) := by decide +kernel
theorem dX7_pass_56 : decode cX7_pass 56 = .ok (.getfield 84, 3) := by decide +kernel
theorem dX7_pass_59 : decode cX7_pass 59 = .ok (.iload_n 2, 1) := by decide +kernel
theorem dX7_pass_60 : decode cX7_pass 60 = .ok (.dup2, 1) := by decide +kernel
theorem dX7_pass_61 : decode cX7_pass 61 = .ok (.iaload, 1) := by decide +kernel
theorem dX7_pass_62 : decode cX7_pass 62 = .ok (.aload_n 0, 1) := by decide +kernel
theorem dX7_pass_63 : decode cX7_pass 63 = .ok (.iload_n 2, 1) := by decide +kernel
theorem dX7_pass_64 : decode cX7_pass 64 = .ok (.invokevirtual 119, 3) := by decide +kernel
theorem dX7_pass_67 : decode cX7_pass 67 = .ok (.bipush 97, 2) := by decide +kernel
theorem dX7_pass_69 : decode cX7_pass 69 = .ok (.if_icmp .ne 7, 3) := by decide +kernel
theorem dX7_pass_72 : decode cX7_pass 72 = .ok (.iload_n 1, 1) := by decide +kernel
theorem dX7_pass_73 : decode cX7_pass 73 = .ok (.goto 4, 3) := by decide +kernel
theorem dX7_pass_76 : decode cX7_pass 76 = .ok (.iconst 0, 1) := by decide +kernel
theorem dX7_pass_77 : decode cX7_pass 77 = .ok (.iadd, 1) := by decide +kernel
theorem dX7_pass_78 : decode cX7_pass 78 = .ok (.iastore, 1) := by decide +kernel
theorem dX7_pass_79 : decode cX7_pass 79 = .ok (.iinc 2 1, 3) := by decide +kernel
theorem dX7_pass_82 : decode cX7_pass 82 = .ok (.goto (-35), 3) := by decide +kernel
theorem dX7_pass_85 : decode cX7_pass 85 = .ok (.aload_n 0, 1) := by decide +kernel
theorem dX7_pass_86 : decode cX7_pass 86 = .ok (.dup, 1) := by decide +kernel
theorem dX7_pass_87 : decode cX7_pass 87 = .ok (.getfield 116, 3) := by decide +kernel
theorem dX7_pass_90 : decode cX7_pass 90 = .ok (.iload_n 1, 1) := by decide +kernel
theorem dX7_pass_91 : decode cX7_pass 91 = .ok (.iadd, 1) := by decide +kernel
theorem dX7_pass_92 : decode cX7_pass 92 = .ok (.putfield 116, 3) := by decide +kernel
theorem dX7_pass_95 : decode cX7_pass 95 = .ok (.aload_n 0, 1) := by decide +kernel
theorem dX7_pass_96 : decode cX7_pass 96 = .ok (.getfield 116, 3) := by decide +kernel
theorem dX7_pass_99 : decode cX7_pass 99 = .ok (.ireturn, 1) := by decide +kernel
theorem dX7_today_0 : decode cX7_today 0 = .ok (.aload_n 0, 1) := by decide +kernel
theorem dX7_today_1 : decode cX7_today 1 = .ok (.iconst 0, 1) := by decide +kernel
theorem dX7_today_2 : decode cX7_today 2 = .ok (.putfield 87, 3) := by decide +kernel
theorem dX7_today_5 : decode cX7_today 5 = .ok (.aload_n 0, 1) := by decide +kernel
theorem dX7_today_6 : decode cX7_today 6 = .ok (.getfield 116, 3) := by decide +kernel
theorem dX7_today_9 : decode cX7_today 9 = .ok (.ireturn, 1) := by decide +kernel
theorem dX7_complain_0 : decode cX7_complain 0 = .ok (.iload_n 2, 1) := by decide +kernel
theorem dX7_complain_1 : decode cX7_complain 1 = .ok (.iconst 0, 1) := by decide +kernel
theorem dX7_complain_2 : decode cX7_complain 2 = .ok (.bipush 9, 2) := by decide +kernel
theorem dX7_complain_4 : decode cX7_complain 4 = .ok (.invokestatic 94, 3) := by decide +kernel
theorem dX7_complain_7 : decode cX7_complain 7 = .ok (.ifCond .eq 30, 3) := by decide +kernel
theorem dX7_complain_10 : decode cX7_complain 10 = .ok (.iload_n 3, 1) := by decide +kernel
theorem dX7_complain_11 : decode cX7_complain 11 = .ok (.iconst 0, 1) := by decide +kernel
theorem dX7_complain_12 : decode cX7_complain 12 = .ok (.bipush 49, 2) := by decide +kernel
theorem dX7_complain_14 : decode cX7_complain 14 = .ok (.invokestatic 94, 3) := by decide +kernel
theorem dX7_complain_17 : decode cX7_complain 17 = .ok (.ifCond .eq 20, 3) := by decide +kernel
theorem dX7_complain_20 : decode cX7_complain 20 = .ok (.iload 4, 2) := by decide +kernel
theorem dX7_complain_22 : decode cX7_complain 22 = .ok (.iconst 0, 1) := by decide +kernel
theorem dX7_complain_23 : decode cX7_complain 23 = .ok (.aload_n 0, 1) := by decide +kernel
theorem dX7_complain_24 : decode cX7_complain 24 = .ok (.getfield 116, 3) := by decide +kernel
theorem dX7_complain_27 : decode cX7_complain 27 = .ok (.invokestatic 94, 3) := by decide +kernel
theorem dX7_complain_30 : decode cX7_complain 30 = .ok (.ifCond .eq 7, 3) := by decide +kernel
theorem dX7_complain_33 : decode cX7_complain 33 = .ok (.iconst 1, 1) := by decide +kernel
theorem dX7_complain_34 : decode cX7_complain 34 = .ok (.goto 4, 3) := by decide +kernel
theorem dX7_complain_37 : decode cX7_complain 37 = .ok (.iconst 0, 1) := by decide +kernel
theorem dX7_complain_38 : decode cX7_complain 38 = .ok (.istore 5, 2) := by decide +kernel
theorem dX7_complain_40 : decode cX7_complain 40 = .ok (.aload_n 0, 1) := by decide +kernel
theorem dX7_complain_41 : decode cX7_complain 41 = .ok (.aload_n 0, 1) := by decide +kernel
theorem dX7_complain_42 : decode cX7_complain 42 = .ok (.iload_n 1, 1) := by decide +kernel
theorem dX7_complain_43 : decode cX7_complain 43 = .ok (.invokevirtual 123, 3) := by decide +kernel
theorem dX7_complain_46 : decode cX7_complain 46 = .ok (.ifCond .ne 7, 3) := by decide +kernel
theorem dX7_complain_49 : decode cX7_complain 49 = .ok (.iconst 1, 1) := by decide +kernel
theorem dX7_complain_50 : decode cX7_complain 50 = .ok (.goto 26, 3) := by decide +kernel
theorem dX7_complain_53 : decode cX7_complain 53 = .ok (.iload 5, 2) := by decide +kernel
theorem dX7_complain_55 : decode cX7_complain 55 = .ok (.ifCond .ne 7, 3) := by decide +kernel
theorem dX7_complain_58 : decode cX7_complain 58 = .ok (.iconst 2, 1) := by decide +kernel
theorem dX7_complain_59 : decode cX7_complain 59 = .ok (.goto 17, 3) := by decide +kernel
theorem dX7_complain_62 : decode cX7_complain 62 = .ok (.aload_n 0, 1) := by decide +kernel
theorem dX7_complain_63 : decode cX7_complain 63 = .ok (.getfield 98, 3) := by decide +kernel
theorem dX7_complain_66 : decode cX7_complain 66 = .ok (.bipush 20, 2) := by decide +kernel
theorem dX7_complain_68 : decode cX7_complain 68 = .ok (.if_icmp .ne 7, 3) := by decide +kernel
theorem dX7_complain_71 : decode cX7_complain 71 = .ok (.iconst 3, 1) := by decide +kernel
theorem dX7_complain_72 : decode cX7_complain 72 = .ok (.goto 4, 3) := by decide +kernel
theorem dX7_complain_75 : decode cX7_complain 75 = .ok (.iconst 0, 1) := by decide +kernel
theorem dX7_complain_76 : decode cX7_complain 76 = .ok (.putfield 87, 3) := by decide +kernel
theorem dX7_complain_79 : decode cX7_complain 79 = .ok (.aload_n 0, 1) := by decide +kernel
theorem dX7_complain_80 : decode cX7_complain 80 = .ok (.getfield 87, 3) := by decide +kernel
theorem dX7_complain_83 : decode cX7_complain 83 = .ok (.ifCond .le 5, 3) := by decide +kernel
theorem dX7_complain_86 : decode cX7_complain 86 = .ok (.iconst 0, 1) := by decide +kernel
theorem dX7_complain_87 : decode cX7_complain 87 = .ok (.ireturn, 1) := by decide +kernel
theorem dX7_complain_88 : decode cX7_complain 88 = .ok (.aload_n 0, 1) := by decide +kernel
theorem dX7_complain_89 : decode cX7_complain 89 = .ok (.getfield 25, 3) := by decide +kernel
theorem dX7_complain_92 : decode cX7_complain 92 = .ok (.aload_n 0, 1) := by decide +kernel
theorem dX7_complain_93 : decode cX7_complain 93 = .ok (.getfield 98, 3) := by decide +kernel
theorem dX7_complain_96 : decode cX7_complain 96 = .ok (.iload_n 1, 1) := by decide +kernel
theorem dX7_complain_97 : decode cX7_complain 97 = .ok (.iastore, 1) := by decide +kernel
theorem dX7_complain_98 : decode cX7_complain 98 = .ok (.aload_n 0, 1) := by decide +kernel
theorem dX7_complain_99 : decode cX7_complain 99 = .ok (.getfield 28, 3) := by decide +kernel
theorem dX7_complain_102 : decode cX7_complain 102 = .ok (.aload_n 0, 1) := by decide +kernel
theorem dX7_complain_103 : decode cX7_complain 103 = .ok (.getfield 98, 3) := by decide +kernel
theorem dX7_complain_106 : decode cX7_complain 106 = .ok (.iload_n 2, 1) := by decide +kernel
theorem dX7_complain_107 : decode cX7_complain 107 = .ok (.iastore, 1) := by decide +kernel
theorem dX7_complain_108 : decode cX7_complain 108 = .ok (.aload_n 0, 1) := by decide +kernel
theorem dX7_complain_109 : decode cX7_complain 109 = .ok (.getfield 31, 3) := by decide +kernel
theorem dX7_complain_112 : decode cX7_complain 112 = .ok (.aload_n 0, 1) := by decide +kernel
theorem dX7_complain_113 : decode cX7_complain 113 = .ok (.getfield 98, 3) := by decide +kernel
theorem dX7_complain_116 : decode cX7_complain 116 = .ok (.iload_n 3, 1) := by decide +kernel
theorem dX7_complain_117 : decode cX7_complain 117 = .ok (.iastore, 1) := by decide +kernel
theorem dX7_complain_118 : decode cX7_complain 118 = .ok (.aload_n 0, 1) := by decide +kernel
theorem dX7_complain_119 : decode cX7_complain 119 = .ok (.getfield 34, 3) := by decide +kernel
theorem dX7_complain_122 : decode cX7_complain 122 = .ok (.aload_n 0, 1) := by decide +kernel
theorem dX7_complain_123 : decode cX7_complain 123 = .ok (.getfield 98, 3) := by decide +kernel
theorem dX7_complain_126 : decode cX7_complain 126 = .ok (.iload 4, 2) := by decide +kernel
theorem dX7_complain_128 : decode cX7_complain 128 = .ok (.iastore, 1) := by decide +kernel
theorem dX7_complain_129 : decode cX7_complain 129 = .ok (.aload_n 0, 1) := by decide +kernel
theorem dX7_complain_130 : decode cX7_complain 130 = .ok (.getfield 37, 3) := by decide +kernel
theorem dX7_complain_133 : decode cX7_complain 133 = .ok (.aload_n 0, 1) := by decide +kernel
theorem dX7_complain_134 : decode cX7_complain 134 = .ok (.getfield 98, 3) := by decide +kernel
theorem dX7_complain_137 : decode cX7_complain 137 = .ok (.aload_n 0, 1) := by decide +kernel
theorem dX7_complain_138 : decode cX7_complain 138 = .ok (.getfield 116, 3) := by decide +kernel
theorem dX7_complain_141 : decode cX7_complain 141 = .ok (.iastore, 1) := by decide +kernel
theorem dX7_complain_142 : decode cX7_complain 142 = .ok (.aload_n 0, 1) := by decide +kernel
theorem dX7_complain_143 : decode cX7_complain 143 = .ok (.getfield 40, 3) := by decide +kernel
theorem dX7_complain_146 : decode cX7_complain 146 = .ok (.aload_n 0, 1) := by decide +kernel
theorem dX7_complain_147 : decode cX7_complain 147 = .ok (.getfield 98, 3) := by decide +kernel
theorem dX7_complain_150 : decode cX7_complain 150 = .ok (.bipush 110, 2) := by decide +kernel
theorem dX7_complain_152 : decode cX7_complain 152 = .ok (.castore, 1) := by decide +kernel
theorem dX7_complain_153 : decode cX7_complain 153 = .ok (.aload_n 0, 1) := by decide +kernel
theorem dX7_complain_154 : decode cX7_complain 154 = .ok (.getfield 44, 3) := by decide +kernel
theorem dX7_complain_157 : decode cX7_complain 157 = .ok (.aload_n 0, 1) := by decide +kernel
theorem dX7_complain_158 : decode cX7_complain 158 = .ok (.getfield 98, 3) := by decide +kernel
theorem dX7_complain_161 : decode cX7_complain 161 = .ok (.iconst (-1), 1) := by decide +kernel
theorem dX7_complain_162 : decode cX7_complain 162 = .ok (.iastore, 1) := by decide +kernel
theorem dX7_complain_163 : decode cX7_complain 163 = .ok (.aload_n 0, 1) := by decide +kernel
theorem dX7_complain_164 : decode cX7_complain 164 = .ok (.getfield 54, 3) := by decide +kernel
theorem dX7_complain_167 : decode cX7_complain 167 = .ok (.aload_n 0, 1) := by decide +kernel
theorem dX7_complain_168 : decode cX7_complain 168 = .ok (.getfield 98, 3) := by decide +kernel
theorem dX7_complain_171 : decode cX7_complain 171 = .ok (.iconst (-1), 1) := by decide +kernel
theorem dX7_complain_172 : decode cX7_complain 172 = .ok (.iastore, 1) := by decide +kernel
theorem dX7_complain_173 : decode cX7_complain 173 = .ok (.aload_n 0, 1) := by decide +kernel
theorem dX7_complain_174 : decode cX7_complain 174 = .ok (.getfield 69, 3) := by decide +kernel
theorem dX7_complain_177 : decode cX7_complain 177 = .ok (.aload_n 0, 1) := by decide +kernel
theorem dX7_complain_178 : decode cX7_complain 178 = .ok (.getfield 98, 3) := by decide +kernel
theorem dX7_complain_181 : decode cX7_complain 181 = .ok (.iconst (-1), 1) := by decide +kernel
theorem dX7_complain_182 : decode cX7_complain 182 = .ok (.iastore, 1) := by decide +kernel
theorem dX7_complain_183 : decode cX7_complain 183 = .ok (.aload_n 0, 1) := by decide +kernel
theorem dX7_complain_184 : decode cX7_complain 184 = .ok (.getfield 75, 3) := by decide +kernel
theorem dX7_complain_187 : decode cX7_complain 187 = .ok (.aload_n 0, 1) := by decide +kernel
theorem dX7_complain_188 : decode cX7_complain 188 = .ok (.getfield 98, 3) := by decide +kernel
theorem dX7_complain_191 : decode cX7_complain 191 = .ok (.iconst (-1), 1) := by decide +kernel
theorem dX7_complain_192 : decode cX7_complain 192 = .ok (.iastore, 1) := by decide +kernel
theorem dX7_complain_193 : decode cX7_complain 193 = .ok (.aload_n 0, 1) := by decide +kernel
theorem dX7_complain_194 : decode cX7_complain 194 = .ok (.dup, 1) := by decide +kernel
theorem dX7_complain_195 : decode cX7_complain 195 = .ok (.getfield 98, 3) := by decide +kernel
theorem dX7_complain_198 : decode cX7_complain 198 = .ok (.iconst 1, 1) := by decide +kernel
theorem dX7_complain_199 : decode cX7_complain 199 = .ok (.iadd, 1) := by decide +kernel
theorem dX7_complain_200 : decode cX7_complain 200 = .ok (.putfield 98, 3) := by decide +kernel
theorem dX7_complain_203 : decode cX7_complain 203 = .ok (.aload_n 0, 1) := by decide +kernel
theorem dX7_complain_204 : decode cX7_complain 204 = .ok (.getfield 98, 3) := by decide +kernel
theorem dX7_complain_207 : decode cX7_complain 207 = .ok (.iconst 1, 1) := by decide +kernel
theorem dX7_complain_208 : decode cX7_complain 208 = .ok (.isub, 1) := by decide +kernel
theorem dX7_complain_209 : decode cX7_complain 209 = .ok (.ireturn, 1) := by decide +kernel
theorem dX7_isPast_0 : decode cX7_isPast 0 = .ok (.aload_n 0, 1) := by decide +kernel
theorem dX7_isPast_1 : decode cX7_isPast 1 = .ok (.iload_n 1, 1) := by decide +kernel
theorem dX7_isPast_2 : decode cX7_isPast 2 = .ok (.invokevirtual 126, 3) := by decide +kernel
theorem dX7_isPast_5 : decode cX7_isPast 5 = .ok (.ifCond .eq 5, 3) := by decide +kernel
theorem dX7_isPast_8 : decode cX7_isPast 8 = .ok (.iconst 1, 1) := by decide +kernel
theorem dX7_isPast_9 : decode cX7_isPast 9 = .ok (.ireturn, 1) := by decide +kernel
theorem dX7_isPast_10 : decode cX7_isPast 10 = .ok (.aload_n 0, 1) := by decide +kernel
theorem dX7_isPast_11 : decode cX7_isPast 11 = .ok (.aload_n 0, 1) := by decide +kernel
theorem dX7_isPast_12 : decode cX7_isPast 12 = .ok (.iload_n 1, 1) := by decide +kernel
theorem dX7_isPast_13 : decode cX7_isPast 13 = .ok (.invokevirtual 119, 3) := by decide +kernel
theorem dX7_isPast_16 : decode cX7_isPast 16 = .ok (.bipush 110, 2) := by decide +kernel
theorem dX7_isPast_18 : decode cX7_isPast 18 = .ok (.if_icmp .eq 13, 3) := by decide +kernel
theorem dX7_isPast_21 : decode cX7_isPast 21 = .ok (.aload_n 0, 1) := by decide +kernel
theorem dX7_isPast_22 : decode cX7_isPast 22 = .ok (.iload_n 1, 1) := by decide +kernel
theorem dX7_isPast_23 : decode cX7_isPast 23 = .ok (.invokevirtual 119, 3) := by decide +kernel
theorem dX7_isPast_26 : decode cX7_isPast 26 = .ok (.bipush 102, 2) := by decide +kernel
theorem dX7_isPast_28 : decode cX7_isPast 28 = .ok (.if_icmp .ne 7, 3) := by decide +kernel
theorem dX7_isPast_31 : decode cX7_isPast 31 = .ok (.iconst 0, 1) := by decide +kernel
theorem dX7_isPast_32 : decode cX7_isPast 32 = .ok (.goto 4, 3) := by decide +kernel
theorem dX7_isPast_35 : decode cX7_isPast 35 = .ok (.iconst 2, 1) := by decide +kernel
theorem dX7_isPast_36 : decode cX7_isPast 36 = .ok (.putfield 87, 3) := by decide +kernel
theorem dX7_isPast_39 : decode cX7_isPast 39 = .ok (.aload_n 0, 1) := by decide +kernel
theorem dX7_isPast_40 : decode cX7_isPast 40 = .ok (.getfield 87, 3) := by decide +kernel
theorem dX7_isPast_43 : decode cX7_isPast 43 = .ok (.ifCond .le 7, 3) := by decide +kernel
theorem dX7_isPast_46 : decode cX7_isPast 46 = .ok (.iconst 1, 1) := by decide +kernel
theorem dX7_isPast_47 : decode cX7_isPast 47 = .ok (.goto 4, 3) := by decide +kernel
theorem dX7_isPast_50 : decode cX7_isPast 50 = .ok (.iconst 0, 1) := by decide +kernel
theorem dX7_isPast_51 : decode cX7_isPast 51 = .ok (.ireturn, 1) := by decide +kernel
theorem dX7_setCourt_0 : decode cX7_setCourt 0 = .ok (.aload_n 0, 1) := by decide +kernel
theorem dX7_setCourt_1 : decode cX7_setCourt 1 = .ok (.iload_n 1, 1) := by decide +kernel
theorem dX7_setCourt_2 : decode cX7_setCourt 2 = .ok (.invokevirtual 129, 3) := by decide +kernel
theorem dX7_setCourt_5 : decode cX7_setCourt 5 = .ok (.ifCond .eq 5, 3) := by decide +kernel
theorem dX7_setCourt_8 : decode cX7_setCourt 8 = .ok (.iconst 0, 1) := by decide +kernel
theorem dX7_setCourt_9 : decode cX7_setCourt 9 = .ok (.ireturn, 1) := by decide +kernel
theorem dX7_setCourt_10 : decode cX7_setCourt 10 = .ok (.aload_n 0, 1) := by decide +kernel
theorem dX7_setCourt_11 : decode cX7_setCourt 11 = .ok (.getfield 47, 3) := by decide +kernel
theorem dX7_setCourt_14 : decode cX7_setCourt 14 = .ok (.iload_n 1, 1) := by decide +kernel
theorem dX7_setCourt_15 : decode cX7_setCourt 15 = .ok (.baload, 1) := by decide +kernel
theorem dX7_setCourt_16 : decode cX7_setCourt 16 = .ok (.istore_n 3, 1) := by decide +kernel
theorem dX7_setCourt_17 : decode cX7_setCourt 17 = .ok (.aload_n 0, 1) := by decide +kernel
theorem dX7_setCourt_18 : decode cX7_setCourt 18 = .ok (.getfield 47, 3) := by decide +kernel
theorem dX7_setCourt_21 : decode cX7_setCourt 21 = .ok (.iload_n 1, 1) := by decide +kernel
theorem dX7_setCourt_22 : decode cX7_setCourt 22 = .ok (.iload_n 2, 1) := by decide +kernel
theorem dX7_setCourt_23 : decode cX7_setCourt 23 = .ok (.bastore, 1) := by decide +kernel
theorem dX7_setCourt_24 : decode cX7_setCourt 24 = .ok (.iload_n 3, 1) := by decide +kernel
theorem dX7_setCourt_25 : decode cX7_setCourt 25 = .ok (.ireturn, 1) := by decide +kernel
theorem dX7_excuse_0 : decode cX7_excuse 0 = .ok (.aload_n 0, 1) := by decide +kernel
theorem dX7_excuse_1 : decode cX7_excuse 1 = .ok (.iload_n 1, 1) := by decide +kernel
theorem dX7_excuse_2 : decode cX7_excuse 2 = .ok (.invokevirtual 129, 3) := by decide +kernel
theorem dX7_excuse_5 : decode cX7_excuse 5 = .ok (.ifCond .eq 5, 3) := by decide +kernel
theorem dX7_excuse_8 : decode cX7_excuse 8 = .ok (.iconst 0, 1) := by decide +kernel
theorem dX7_excuse_9 : decode cX7_excuse 9 = .ok (.ireturn, 1) := by decide +kernel
theorem dX7_excuse_10 : decode cX7_excuse 10 = .ok (.aload_n 0, 1) := by decide +kernel
theorem dX7_excuse_11 : decode cX7_excuse 11 = .ok (.getfield 51, 3) := by decide +kernel
theorem dX7_excuse_14 : decode cX7_excuse 14 = .ok (.iload_n 1, 1) := by decide +kernel
theorem dX7_excuse_15 : decode cX7_excuse 15 = .ok (.baload, 1) := by decide +kernel
theorem dX7_excuse_16 : decode cX7_excuse 16 = .ok (.istore_n 2, 1) := by decide +kernel
theorem dX7_excuse_17 : decode cX7_excuse 17 = .ok (.aload_n 0, 1) := by decide +kernel
theorem dX7_excuse_18 : decode cX7_excuse 18 = .ok (.getfield 51, 3) := by decide +kernel
theorem dX7_excuse_21 : decode cX7_excuse 21 = .ok (.iload_n 1, 1) := by decide +kernel
theorem dX7_excuse_22 : decode cX7_excuse 22 = .ok (.iconst 1, 1) := by decide +kernel
theorem dX7_excuse_23 : decode cX7_excuse 23 = .ok (.bastore, 1) := by decide +kernel
theorem dX7_excuse_24 : decode cX7_excuse 24 = .ok (.iload_n 2, 1) := by decide +kernel
theorem dX7_excuse_25 : decode cX7_excuse 25 = .ok (.ireturn, 1) := by decide +kernel
theorem dX7_takeStep_0 : decode cX7_takeStep 0 = .ok (.aload_n 0, 1) := by decide +kernel
theorem dX7_takeStep_1 : decode cX7_takeStep 1 = .ok (.iload_n 1, 1) := by decide +kernel
theorem dX7_takeStep_2 : decode cX7_takeStep 2 = .ok (.invokevirtual 129, 3) := by decide +kernel
theorem dX7_takeStep_5 : decode cX7_takeStep 5 = .ok (.ifCond .eq 5, 3) := by decide +kernel
theorem dX7_takeStep_8 : decode cX7_takeStep 8 = .ok (.iconst 0, 1) := by decide +kernel
theorem dX7_takeStep_9 : decode cX7_takeStep 9 = .ok (.ireturn, 1) := by decide +kernel
theorem dX7_takeStep_10 : decode cX7_takeStep 10 = .ok (.aload_n 0, 1) := by decide +kernel
theorem dX7_takeStep_11 : decode cX7_takeStep 11 = .ok (.aload_n 0, 1) := by decide +kernel
theorem dX7_takeStep_12 : decode cX7_takeStep 12 = .ok (.getfield 54, 3) := by decide +kernel
theorem dX7_takeStep_15 : decode cX7_takeStep 15 = .ok (.iload_n 1, 1) := by decide +kernel
theorem dX7_takeStep_16 : decode cX7_takeStep 16 = .ok (.iaload, 1) := by decide +kernel
theorem dX7_takeStep_17 : decode cX7_takeStep 17 = .ok (.iconst (-1), 1) := by decide +kernel
theorem dX7_takeStep_18 : decode cX7_takeStep 18 = .ok (.if_icmp .eq 7, 3) := by decide +kernel
theorem dX7_takeStep_21 : decode cX7_takeStep 21 = .ok (.iconst 2, 1) := by decide +kernel
theorem dX7_takeStep_22 : decode cX7_takeStep 22 = .ok (.goto 4, 3) := by decide +kernel
theorem dX7_takeStep_25 : decode cX7_takeStep 25 = .ok (.iconst 0, 1) := by decide +kernel
theorem dX7_takeStep_26 : decode cX7_takeStep 26 = .ok (.putfield 87, 3) := by decide +kernel
theorem dX7_takeStep_29 : decode cX7_takeStep 29 = .ok (.aload_n 0, 1) := by decide +kernel
theorem dX7_takeStep_30 : decode cX7_takeStep 30 = .ok (.getfield 87, 3) := by decide +kernel
theorem dX7_takeStep_33 : decode cX7_takeStep 33 = .ok (.ifCond .le 5, 3) := by decide +kernel
theorem dX7_takeStep_36 : decode cX7_takeStep 36 = .ok (.iconst 0, 1) := by decide +kernel
theorem dX7_takeStep_37 : decode cX7_takeStep 37 = .ok (.ireturn, 1) := by decide +kernel
theorem dX7_takeStep_38 : decode cX7_takeStep 38 = .ok (.aload_n 0, 1) := by decide +kernel
theorem dX7_takeStep_39 : decode cX7_takeStep 39 = .ok (.getfield 54, 3) := by decide +kernel
theorem dX7_takeStep_42 : decode cX7_takeStep 42 = .ok (.iload_n 1, 1) := by decide +kernel
theorem dX7_takeStep_43 : decode cX7_takeStep 43 = .ok (.aload_n 0, 1) := by decide +kernel
theorem dX7_takeStep_44 : decode cX7_takeStep 44 = .ok (.getfield 116, 3) := by decide +kernel
theorem dX7_takeStep_47 : decode cX7_takeStep 47 = .ok (.iastore, 1) := by decide +kernel
theorem dX7_takeStep_48 : decode cX7_takeStep 48 = .ok (.aload_n 0, 1) := by decide +kernel
theorem dX7_takeStep_49 : decode cX7_takeStep 49 = .ok (.getfield 116, 3) := by decide +kernel
theorem dX7_takeStep_52 : decode cX7_takeStep 52 = .ok (.aload_n 0, 1) := by decide +kernel
theorem dX7_takeStep_53 : decode cX7_takeStep 53 = .ok (.getfield 7, 3) := by decide +kernel
theorem dX7_takeStep_56 : decode cX7_takeStep 56 = .ok (.aload_n 0, 1) := by decide +kernel
theorem dX7_takeStep_57 : decode cX7_takeStep 57 = .ok (.getfield 25, 3) := by decide +kernel
theorem dX7_takeStep_60 : decode cX7_takeStep 60 = .ok (.iload_n 1, 1) := by decide +kernel
theorem dX7_takeStep_61 : decode cX7_takeStep 61 = .ok (.iaload, 1) := by decide +kernel
theorem dX7_takeStep_62 : decode cX7_takeStep 62 = .ok (.iaload, 1) := by decide +kernel
theorem dX7_takeStep_63 : decode cX7_takeStep 63 = .ok (.iadd, 1) := by decide +kernel
theorem dX7_takeStep_64 : decode cX7_takeStep 64 = .ok (.ireturn, 1) := by decide +kernel
theorem dX7_examine_0 : decode cX7_examine 0 = .ok (.aload_n 0, 1) := by decide +kernel
theorem dX7_examine_1 : decode cX7_examine 1 = .ok (.iload_n 1, 1) := by decide +kernel
theorem dX7_examine_2 : decode cX7_examine 2 = .ok (.invokevirtual 129, 3) := by decide +kernel
theorem dX7_examine_5 : decode cX7_examine 5 = .ok (.ifCond .eq 6, 3) := by decide +kernel
theorem dX7_examine_8 : decode cX7_examine 8 = .ok (.bipush 32, 2) := by decide +kernel
theorem dX7_examine_10 : decode cX7_examine 10 = .ok (.ireturn, 1) := by decide +kernel
theorem dX7_examine_11 : decode cX7_examine 11 = .ok (.aload_n 0, 1) := by decide +kernel
theorem dX7_examine_12 : decode cX7_examine 12 = .ok (.getfield 25, 3) := by decide +kernel
theorem dX7_examine_15 : decode cX7_examine 15 = .ok (.iload_n 1, 1) := by decide +kernel
theorem dX7_examine_16 : decode cX7_examine 16 = .ok (.iaload, 1) := by decide +kernel
theorem dX7_examine_17 : decode cX7_examine 17 = .ok (.istore_n 2, 1) := by decide +kernel
theorem dX7_examine_18 : decode cX7_examine 18 = .ok (.aload_n 0, 1) := by decide +kernel
theorem dX7_examine_19 : decode cX7_examine 19 = .ok (.getfield 13, 3) := by decide +kernel
theorem dX7_examine_22 : decode cX7_examine 22 = .ok (.iload_n 2, 1) := by decide +kernel
theorem dX7_examine_23 : decode cX7_examine 23 = .ok (.iaload, 1) := by decide +kernel
theorem dX7_examine_24 : decode cX7_examine 24 = .ok (.aload_n 0, 1) := by decide +kernel
theorem dX7_examine_25 : decode cX7_examine 25 = .ok (.getfield 28, 3) := by decide +kernel
theorem dX7_examine_28 : decode cX7_examine 28 = .ok (.iload_n 1, 1) := by decide +kernel
theorem dX7_examine_29 : decode cX7_examine 29 = .ok (.iaload, 1) := by decide +kernel
theorem dX7_examine_30 : decode cX7_examine 30 = .ok (.ishr, 1) := by decide +kernel
theorem dX7_examine_31 : decode cX7_examine 31 = .ok (.iconst 1, 1) := by decide +kernel
theorem dX7_examine_32 : decode cX7_examine 32 = .ok (.iand, 1) := by decide +kernel
theorem dX7_examine_33 : decode cX7_examine 33 = .ok (.iconst 1, 1) := by decide +kernel
theorem dX7_examine_34 : decode cX7_examine 34 = .ok (.if_icmp .ne 16, 3) := by decide +kernel
theorem dX7_examine_37 : decode cX7_examine 37 = .ok (.aload_n 0, 1) := by decide +kernel
theorem dX7_examine_38 : decode cX7_examine 38 = .ok (.getfield 47, 3) := by decide +kernel
theorem dX7_examine_41 : decode cX7_examine 41 = .ok (.iload_n 1, 1) := by decide +kernel
theorem dX7_examine_42 : decode cX7_examine 42 = .ok (.baload, 1) := by decide +kernel
theorem dX7_examine_43 : decode cX7_examine 43 = .ok (.ifCond .ne 7, 3) := by decide +kernel
theorem dX7_examine_46 : decode cX7_examine 46 = .ok (.iconst 1, 1) := by decide +kernel
theorem dX7_examine_47 : decode cX7_examine 47 = .ok (.goto 4, 3) := by decide +kernel
theorem dX7_examine_50 : decode cX7_examine 50 = .ok (.iconst 0, 1) := by decide +kernel
theorem dX7_examine_51 : decode cX7_examine 51 = .ok (.istore_n 3, 1) := by decide +kernel
theorem dX7_examine_52 : decode cX7_examine 52 = .ok (.aload_n 0, 1) := by decide +kernel
theorem dX7_examine_53 : decode cX7_examine 53 = .ok (.getfield 37, 3) := by decide +kernel
theorem dX7_examine_56 : decode cX7_examine 56 = .ok (.iload_n 1, 1) := by decide +kernel
theorem dX7_examine_57 : decode cX7_examine 57 = .ok (.iaload, 1) := by decide +kernel
theorem dX7_examine_58 : decode cX7_examine 58 = .ok (.aload_n 0, 1) := by decide +kernel
theorem dX7_examine_59 : decode cX7_examine 59 = .ok (.getfield 34, 3) := by decide +kernel
theorem dX7_examine_62 : decode cX7_examine 62 = .ok (.iload_n 1, 1) := by decide +kernel
theorem dX7_examine_63 : decode cX7_examine 63 = .ok (.iaload, 1) := by decide +kernel
theorem dX7_examine_64 : decode cX7_examine 64 = .ok (.isub, 1) := by decide +kernel
theorem dX7_examine_65 : decode cX7_examine 65 = .ok (.sipush 365, 3) := by decide +kernel
theorem dX7_examine_68 : decode cX7_examine 68 = .ok (.if_icmp .le 16, 3) := by decide +kernel
theorem dX7_examine_71 : decode cX7_examine 71 = .ok (.aload_n 0, 1) := by decide +kernel
theorem dX7_examine_72 : decode cX7_examine 72 = .ok (.getfield 51, 3) := by decide +kernel
theorem dX7_examine_75 : decode cX7_examine 75 = .ok (.iload_n 1, 1) := by decide +kernel
theorem dX7_examine_76 : decode cX7_examine 76 = .ok (.baload, 1) := by decide +kernel
theorem dX7_examine_77 : decode cX7_examine 77 = .ok (.ifCond .ne 7, 3) := by decide +kernel
theorem dX7_examine_80 : decode cX7_examine 80 = .ok (.iconst 1, 1) := by decide +kernel
theorem dX7_examine_81 : decode cX7_examine 81 = .ok (.goto 4, 3) := by decide +kernel
theorem dX7_examine_84 : decode cX7_examine 84 = .ok (.iconst 0, 1) := by decide +kernel
theorem dX7_examine_85 : decode cX7_examine 85 = .ok (.istore 4, 2) := by decide +kernel
theorem dX7_examine_87 : decode cX7_examine 87 = .ok (.aload_n 0, 1) := by decide +kernel
theorem dX7_examine_88 : decode cX7_examine 88 = .ok (.getfield 54, 3) := by decide +kernel
theorem dX7_examine_91 : decode cX7_examine 91 = .ok (.iload_n 1, 1) := by decide +kernel
theorem dX7_examine_92 : decode cX7_examine 92 = .ok (.iaload, 1) := by decide +kernel
theorem dX7_examine_93 : decode cX7_examine 93 = .ok (.iconst (-1), 1) := by decide +kernel
theorem dX7_examine_94 : decode cX7_examine 94 = .ok (.if_icmp .eq 27, 3) := by decide +kernel
theorem dX7_examine_97 : decode cX7_examine 97 = .ok (.aload_n 0, 1) := by decide +kernel
theorem dX7_examine_98 : decode cX7_examine 98 = .ok (.getfield 116, 3) := by decide +kernel
theorem dX7_examine_101 : decode cX7_examine 101 = .ok (.aload_n 0, 1) := by decide +kernel
theorem dX7_examine_102 : decode cX7_examine 102 = .ok (.getfield 54, 3) := by decide +kernel
theorem dX7_examine_105 : decode cX7_examine 105 = .ok (.iload_n 1, 1) := by decide +kernel
theorem dX7_examine_106 : decode cX7_examine 106 = .ok (.iaload, 1) := by decide +kernel
theorem dX7_examine_107 : decode cX7_examine 107 = .ok (.isub, 1) := by decide +kernel
theorem dX7_examine_108 : decode cX7_examine 108 = .ok (.aload_n 0, 1) := by decide +kernel
theorem dX7_examine_109 : decode cX7_examine 109 = .ok (.getfield 7, 3) := by decide +kernel
theorem dX7_examine_112 : decode cX7_examine 112 = .ok (.iload_n 2, 1) := by decide +kernel
theorem dX7_examine_113 : decode cX7_examine 113 = .ok (.iaload, 1) := by decide +kernel
theorem dX7_examine_114 : decode cX7_examine 114 = .ok (.if_icmp .lt 7, 3) := by decide +kernel
theorem dX7_examine_117 : decode cX7_examine 117 = .ok (.iconst 1, 1) := by decide +kernel
theorem dX7_examine_118 : decode cX7_examine 118 = .ok (.goto 4, 3) := by decide +kernel
theorem dX7_examine_121 : decode cX7_examine 121 = .ok (.iconst 0, 1) := by decide +kernel
theorem dX7_examine_122 : decode cX7_examine 122 = .ok (.istore 5, 2) := by decide +kernel
theorem dX7_examine_124 : decode cX7_examine 124 = .ok (.iload_n 3, 1) := by decide +kernel
theorem dX7_examine_125 : decode cX7_examine 125 = .ok (.ifCond .ne 8, 3) := by decide +kernel
theorem dX7_examine_128 : decode cX7_examine 128 = .ok (.bipush 111, 2) := by decide +kernel
theorem dX7_examine_130 : decode cX7_examine 130 = .ok (.goto 25, 3) := by decide +kernel
theorem dX7_examine_133 : decode cX7_examine 133 = .ok (.iload 4, 2) := by decide +kernel
theorem dX7_examine_135 : decode cX7_examine 135 = .ok (.ifCond .eq 8, 3) := by decide +kernel
theorem dX7_examine_138 : decode cX7_examine 138 = .ok (.bipush 108, 2) := by decide +kernel
theorem dX7_examine_140 : decode cX7_examine 140 = .ok (.goto 15, 3) := by decide +kernel
theorem dX7_examine_143 : decode cX7_examine 143 = .ok (.iload 5, 2) := by decide +kernel
theorem dX7_examine_145 : decode cX7_examine 145 = .ok (.ifCond .eq 8, 3) := by decide +kernel
theorem dX7_examine_148 : decode cX7_examine 148 = .ok (.bipush 114, 2) := by decide +kernel
theorem dX7_examine_150 : decode cX7_examine 150 = .ok (.goto 5, 3) := by decide +kernel
theorem dX7_examine_153 : decode cX7_examine 153 = .ok (.bipush 102, 2) := by decide +kernel
theorem dX7_examine_155 : decode cX7_examine 155 = .ok (.istore 6, 2) := by decide +kernel
theorem dX7_examine_157 : decode cX7_examine 157 = .ok (.aload_n 0, 1) := by decide +kernel
theorem dX7_examine_158 : decode cX7_examine 158 = .ok (.getfield 40, 3) := by decide +kernel
theorem dX7_examine_161 : decode cX7_examine 161 = .ok (.iload_n 1, 1) := by decide +kernel
theorem dX7_examine_162 : decode cX7_examine 162 = .ok (.iload 6, 2) := by decide +kernel
theorem dX7_examine_164 : decode cX7_examine 164 = .ok (.castore, 1) := by decide +kernel
theorem dX7_examine_165 : decode cX7_examine 165 = .ok (.iload 6, 2) := by decide +kernel
theorem dX7_examine_167 : decode cX7_examine 167 = .ok (.invokestatic 112, 3) := by decide +kernel
theorem dX7_examine_170 : decode cX7_examine 170 = .ok (.ifCond .eq 13, 3) := by decide +kernel
theorem dX7_examine_173 : decode cX7_examine 173 = .ok (.aload_n 0, 1) := by decide +kernel
theorem dX7_examine_174 : decode cX7_examine 174 = .ok (.getfield 81, 3) := by decide +kernel
theorem dX7_examine_177 : decode cX7_examine 177 = .ok (.iload_n 1, 1) := by decide +kernel
theorem dX7_examine_178 : decode cX7_examine 178 = .ok (.aload_n 0, 1) := by decide +kernel
theorem dX7_examine_179 : decode cX7_examine 179 = .ok (.getfield 116, 3) := by decide +kernel
theorem dX7_examine_182 : decode cX7_examine 182 = .ok (.iastore, 1) := by decide +kernel
theorem dX7_examine_183 : decode cX7_examine 183 = .ok (.iload 6, 2) := by decide +kernel
theorem dX7_examine_185 : decode cX7_examine 185 = .ok (.ireturn, 1) := by decide +kernel
theorem dX7_state_0 : decode cX7_state 0 = .ok (.aload_n 0, 1) := by decide +kernel
theorem dX7_state_1 : decode cX7_state 1 = .ok (.iload_n 1, 1) := by decide +kernel
theorem dX7_state_2 : decode cX7_state 2 = .ok (.invokevirtual 126, 3) := by decide +kernel
theorem dX7_state_5 : decode cX7_state 5 = .ok (.ifCond .eq 8, 3) := by decide +kernel
theorem dX7_state_8 : decode cX7_state 8 = .ok (.bipush 32, 2) := by decide +kernel
theorem dX7_state_10 : decode cX7_state 10 = .ok (.goto 8, 3) := by decide +kernel
theorem dX7_state_13 : decode cX7_state 13 = .ok (.aload_n 0, 1) := by decide +kernel
theorem dX7_state_14 : decode cX7_state 14 = .ok (.iload_n 1, 1) := by decide +kernel
theorem dX7_state_15 : decode cX7_state 15 = .ok (.invokevirtual 119, 3) := by decide +kernel
theorem dX7_state_18 : decode cX7_state 18 = .ok (.ireturn, 1) := by decide +kernel
theorem dX7_countState_0 : decode cX7_countState 0 = .ok (.aload_n 0, 1) := by decide +kernel
theorem dX7_countState_1 : decode cX7_countState 1 = .ok (.iload_n 1, 1) := by decide +kernel
theorem dX7_countState_2 : decode cX7_countState 2 = .ok (.invokestatic 132, 3) := by decide +kernel
theorem dX7_countState_5 : decode cX7_countState 5 = .ok (.ifCond .eq 7, 3) := by decide +kernel
theorem dX7_countState_8 : decode cX7_countState 8 = .ok (.iconst 0, 1) := by decide +kernel
theorem dX7_countState_9 : decode cX7_countState 9 = .ok (.goto 4, 3) := by decide +kernel
theorem dX7_countState_12 : decode cX7_countState 12 = .ok (.iconst 1, 1) := by decide +kernel
theorem dX7_countState_13 : decode cX7_countState 13 = .ok (.putfield 87, 3) := by decide +kernel
theorem dX7_countState_16 : decode cX7_countState 16 = .ok (.iconst 0, 1) := by decide +kernel
theorem dX7_countState_17 : decode cX7_countState 17 = .ok (.istore_n 2, 1) := by decide +kernel
theorem dX7_countState_18 : decode cX7_countState 18 = .ok (.iconst 0, 1) := by decide +kernel
theorem dX7_countState_19 : decode cX7_countState 19 = .ok (.istore_n 3, 1) := by decide +kernel
theorem dX7_countState_20 : decode cX7_countState 20 = .ok (.iload_n 3, 1) := by decide +kernel
theorem dX7_countState_21 : decode cX7_countState 21 = .ok (.aload_n 0, 1) := by decide +kernel
theorem dX7_countState_22 : decode cX7_countState 22 = .ok (.getfield 98, 3) := by decide +kernel
theorem dX7_countState_25 : decode cX7_countState 25 = .ok (.if_icmp .ge 33, 3) := by decide +kernel
theorem dX7_countState_28 : decode cX7_countState 28 = .ok (.iload_n 2, 1) := by decide +kernel
theorem dX7_countState_29 : decode cX7_countState 29 = .ok (.aload_n 0, 1) := by decide +kernel
theorem dX7_countState_30 : decode cX7_countState 30 = .ok (.getfield 87, 3) := by decide +kernel
theorem dX7_countState_33 : decode cX7_countState 33 = .ok (.ifCond .ne 16, 3) := by decide +kernel
theorem dX7_countState_36 : decode cX7_countState 36 = .ok (.aload_n 0, 1) := by decide +kernel
theorem dX7_countState_37 : decode cX7_countState 37 = .ok (.iload_n 3, 1) := by decide +kernel
theorem dX7_countState_38 : decode cX7_countState 38 = .ok (.invokevirtual 119, 3) := by decide +kernel
theorem dX7_countState_41 : decode cX7_countState 41 = .ok (.iload_n 1, 1) := by decide +kernel
theorem dX7_countState_42 : decode cX7_countState 42 = .ok (.if_icmp .ne 7, 3) := by decide +kernel
theorem dX7_countState_45 : decode cX7_countState 45 = .ok (.iconst 1, 1) := by decide +kernel
theorem dX7_countState_46 : decode cX7_countState 46 = .ok (.goto 4, 3) := by decide +kernel
theorem dX7_countState_49 : decode cX7_countState 49 = .ok (.iconst 0, 1) := by decide +kernel
theorem dX7_countState_50 : decode cX7_countState 50 = .ok (.iadd, 1) := by decide +kernel
theorem dX7_countState_51 : decode cX7_countState 51 = .ok (.istore_n 2, 1) := by decide +kernel
theorem dX7_countState_52 : decode cX7_countState 52 = .ok (.iinc 3 1, 3) := by decide +kernel
theorem dX7_countState_55 : decode cX7_countState 55 = .ok (.goto (-35), 3) := by decide +kernel
theorem dX7_countState_58 : decode cX7_countState 58 = .ok (.iload_n 2, 1) := by decide +kernel
theorem dX7_countState_59 : decode cX7_countState 59 = .ok (.ireturn, 1) := by decide +kernel
theorem dX7_countOf_0 : decode cX7_countOf 0 = .ok (.aload_n 0, 1) := by decide +kernel
theorem dX7_countOf_1 : decode cX7_countOf 1 = .ok (.iload_n 1, 1) := by decide +kernel
theorem dX7_countOf_2 : decode cX7_countOf 2 = .ok (.iconst 0, 1) := by decide +kernel
theorem dX7_countOf_3 : decode cX7_countOf 3 = .ok (.bipush 49, 2) := by decide +kernel
theorem dX7_countOf_5 : decode cX7_countOf 5 = .ok (.invokestatic 94, 3) := by decide +kernel
theorem dX7_countOf_8 : decode cX7_countOf 8 = .ok (.ifCond .eq 7, 3) := by decide +kernel
theorem dX7_countOf_11 : decode cX7_countOf 11 = .ok (.iconst 0, 1) := by decide +kernel
theorem dX7_countOf_12 : decode cX7_countOf 12 = .ok (.goto 4, 3) := by decide +kernel
theorem dX7_countOf_15 : decode cX7_countOf 15 = .ok (.iconst 1, 1) := by decide +kernel
theorem dX7_countOf_16 : decode cX7_countOf 16 = .ok (.putfield 87, 3) := by decide +kernel
theorem dX7_countOf_19 : decode cX7_countOf 19 = .ok (.iconst 0, 1) := by decide +kernel
theorem dX7_countOf_20 : decode cX7_countOf 20 = .ok (.istore_n 2, 1) := by decide +kernel
theorem dX7_countOf_21 : decode cX7_countOf 21 = .ok (.iconst 0, 1) := by decide +kernel
theorem dX7_countOf_22 : decode cX7_countOf 22 = .ok (.istore_n 3, 1) := by decide +kernel
theorem dX7_countOf_23 : decode cX7_countOf 23 = .ok (.iload_n 3, 1) := by decide +kernel
theorem dX7_countOf_24 : decode cX7_countOf 24 = .ok (.aload_n 0, 1) := by decide +kernel
theorem dX7_countOf_25 : decode cX7_countOf 25 = .ok (.getfield 98, 3) := by decide +kernel
theorem dX7_countOf_28 : decode cX7_countOf 28 = .ok (.if_icmp .ge 34, 3) := by decide +kernel
theorem dX7_countOf_31 : decode cX7_countOf 31 = .ok (.iload_n 2, 1) := by decide +kernel
theorem dX7_countOf_32 : decode cX7_countOf 32 = .ok (.aload_n 0, 1) := by decide +kernel
theorem dX7_countOf_33 : decode cX7_countOf 33 = .ok (.getfield 87, 3) := by decide +kernel
theorem dX7_countOf_36 : decode cX7_countOf 36 = .ok (.ifCond .ne 17, 3) := by decide +kernel
theorem dX7_countOf_39 : decode cX7_countOf 39 = .ok (.aload_n 0, 1) := by decide +kernel
theorem dX7_countOf_40 : decode cX7_countOf 40 = .ok (.getfield 31, 3) := by decide +kernel
theorem dX7_countOf_43 : decode cX7_countOf 43 = .ok (.iload_n 3, 1) := by decide +kernel
theorem dX7_countOf_44 : decode cX7_countOf 44 = .ok (.iaload, 1) := by decide +kernel
theorem dX7_countOf_45 : decode cX7_countOf 45 = .ok (.iload_n 1, 1) := by decide +kernel
theorem dX7_countOf_46 : decode cX7_countOf 46 = .ok (.if_icmp .ne 7, 3) := by decide +kernel
theorem dX7_countOf_49 : decode cX7_countOf 49 = .ok (.iconst 1, 1) := by decide +kernel
theorem dX7_countOf_50 : decode cX7_countOf 50 = .ok (.goto 4, 3) := by decide +kernel
theorem dX7_countOf_53 : decode cX7_countOf 53 = .ok (.iconst 0, 1) := by decide +kernel
theorem dX7_countOf_54 : decode cX7_countOf 54 = .ok (.iadd, 1) := by decide +kernel
theorem dX7_countOf_55 : decode cX7_countOf 55 = .ok (.istore_n 2, 1) := by decide +kernel
theorem dX7_countOf_56 : decode cX7_countOf 56 = .ok (.iinc 3 1, 3) := by decide +kernel
theorem dX7_countOf_59 : decode cX7_countOf 59 = .ok (.goto (-36), 3) := by decide +kernel
theorem dX7_countOf_62 : decode cX7_countOf 62 = .ok (.iload_n 2, 1) := by decide +kernel
theorem dX7_countOf_63 : decode cX7_countOf 63 = .ok (.ireturn, 1) := by decide +kernel
theorem dX7_isNot_0 : decode cX7_isNot 0 = .ok (.aload_n 0, 1) := by decide +kernel
theorem dX7_isNot_1 : decode cX7_isNot 1 = .ok (.iload_n 1, 1) := by decide +kernel
theorem dX7_isNot_2 : decode cX7_isNot 2 = .ok (.invokevirtual 126, 3) := by decide +kernel
theorem dX7_isNot_5 : decode cX7_isNot 5 = .ok (.ifCond .eq 5, 3) := by decide +kernel
theorem dX7_isNot_8 : decode cX7_isNot 8 = .ok (.iconst 1, 1) := by decide +kernel
theorem dX7_isNot_9 : decode cX7_isNot 9 = .ok (.ireturn, 1) := by decide +kernel
theorem dX7_isNot_10 : decode cX7_isNot 10 = .ok (.aload_n 0, 1) := by decide +kernel
theorem dX7_isNot_11 : decode cX7_isNot 11 = .ok (.aload_n 0, 1) := by decide +kernel
theorem dX7_isNot_12 : decode cX7_isNot 12 = .ok (.iload_n 1, 1) := by decide +kernel
theorem dX7_isNot_13 : decode cX7_isNot 13 = .ok (.invokevirtual 105, 3) := by decide +kernel
theorem dX7_isNot_16 : decode cX7_isNot 16 = .ok (.ifCond .ne 13, 3) := by decide +kernel
theorem dX7_isNot_19 : decode cX7_isNot 19 = .ok (.aload_n 0, 1) := by decide +kernel
theorem dX7_isNot_20 : decode cX7_isNot 20 = .ok (.getfield 40, 3) := by decide +kernel
theorem dX7_isNot_23 : decode cX7_isNot 23 = .ok (.iload_n 1, 1) := by decide +kernel
theorem dX7_isNot_24 : decode cX7_isNot 24 = .ok (.caload, 1) := by decide +kernel
theorem dX7_isNot_25 : decode cX7_isNot 25 = .ok (.iload_n 2, 1) := by decide +kernel
theorem dX7_isNot_26 : decode cX7_isNot 26 = .ok (.if_icmp .eq 7, 3) := by decide +kernel
theorem dX7_isNot_29 : decode cX7_isNot 29 = .ok (.iconst 2, 1) := by decide +kernel
theorem dX7_isNot_30 : decode cX7_isNot 30 = .ok (.goto 4, 3) := by decide +kernel
theorem dX7_isNot_33 : decode cX7_isNot 33 = .ok (.iconst 0, 1) := by decide +kernel
theorem dX7_isNot_34 : decode cX7_isNot 34 = .ok (.putfield 87, 3) := by decide +kernel
theorem dX7_isNot_37 : decode cX7_isNot 37 = .ok (.aload_n 0, 1) := by decide +kernel
theorem dX7_isNot_38 : decode cX7_isNot 38 = .ok (.getfield 87, 3) := by decide +kernel
theorem dX7_isNot_41 : decode cX7_isNot 41 = .ok (.ifCond .le 7, 3) := by decide +kernel
theorem dX7_isNot_44 : decode cX7_isNot 44 = .ok (.iconst 1, 1) := by decide +kernel
theorem dX7_isNot_45 : decode cX7_isNot 45 = .ok (.goto 4, 3) := by decide +kernel
theorem dX7_isNot_48 : decode cX7_isNot 48 = .ok (.iconst 0, 1) := by decide +kernel
theorem dX7_isNot_49 : decode cX7_isNot 49 = .ok (.ireturn, 1) := by decide +kernel
theorem dX7_isOver_0 : decode cX7_isOver 0 = .ok (.aload_n 0, 1) := by decide +kernel
theorem dX7_isOver_1 : decode cX7_isOver 1 = .ok (.getfield 40, 3) := by decide +kernel
theorem dX7_isOver_4 : decode cX7_isOver 4 = .ok (.iload_n 1, 1) := by decide +kernel
theorem dX7_isOver_5 : decode cX7_isOver 5 = .ok (.caload, 1) := by decide +kernel
theorem dX7_isOver_6 : decode cX7_isOver 6 = .ok (.bipush 97, 2) := by decide +kernel
theorem dX7_isOver_8 : decode cX7_isOver 8 = .ok (.if_icmp .ne 20, 3) := by decide +kernel
theorem dX7_isOver_11 : decode cX7_isOver 11 = .ok (.aload_n 0, 1) := by decide +kernel
theorem dX7_isOver_12 : decode cX7_isOver 12 = .ok (.getfield 116, 3) := by decide +kernel
theorem dX7_isOver_15 : decode cX7_isOver 15 = .ok (.aload_n 0, 1) := by decide +kernel
theorem dX7_isOver_16 : decode cX7_isOver 16 = .ok (.getfield 57, 3) := by decide +kernel
theorem dX7_isOver_19 : decode cX7_isOver 19 = .ok (.iload_n 1, 1) := by decide +kernel
theorem dX7_isOver_20 : decode cX7_isOver 20 = .ok (.iaload, 1) := by decide +kernel
theorem dX7_isOver_21 : decode cX7_isOver 21 = .ok (.if_icmp .le 7, 3) := by decide +kernel
theorem dX7_isOver_24 : decode cX7_isOver 24 = .ok (.iconst 1, 1) := by decide +kernel
theorem dX7_isOver_25 : decode cX7_isOver 25 = .ok (.goto 4, 3) := by decide +kernel
theorem dX7_isOver_28 : decode cX7_isOver 28 = .ok (.iconst 0, 1) := by decide +kernel
theorem dX7_isOver_29 : decode cX7_isOver 29 = .ok (.ireturn, 1) := by decide +kernel
theorem dX7_ask_0 : decode cX7_ask 0 = .ok (.aload_n 0, 1) := by decide +kernel
theorem dX7_ask_1 : decode cX7_ask 1 = .ok (.iload_n 1, 1) := by decide +kernel
theorem dX7_ask_2 : decode cX7_ask 2 = .ok (.bipush 114, 2) := by decide +kernel
theorem dX7_ask_4 : decode cX7_ask 4 = .ok (.invokevirtual 135, 3) := by decide +kernel
theorem dX7_ask_7 : decode cX7_ask 7 = .ok (.ifCond .eq 5, 3) := by decide +kernel
theorem dX7_ask_10 : decode cX7_ask 10 = .ok (.iconst 0, 1) := by decide +kernel
theorem dX7_ask_11 : decode cX7_ask 11 = .ok (.ireturn, 1) := by decide +kernel
theorem dX7_ask_12 : decode cX7_ask 12 = .ok (.aload_n 0, 1) := by decide +kernel
theorem dX7_ask_13 : decode cX7_ask 13 = .ok (.getfield 40, 3) := by decide +kernel
theorem dX7_ask_16 : decode cX7_ask 16 = .ok (.iload_n 1, 1) := by decide +kernel
theorem dX7_ask_17 : decode cX7_ask 17 = .ok (.bipush 97, 2) := by decide +kernel
theorem dX7_ask_19 : decode cX7_ask 19 = .ok (.castore, 1) := by decide +kernel
theorem dX7_ask_20 : decode cX7_ask 20 = .ok (.aload_n 0, 1) := by decide +kernel
theorem dX7_ask_21 : decode cX7_ask 21 = .ok (.getfield 57, 3) := by decide +kernel
theorem dX7_ask_24 : decode cX7_ask 24 = .ok (.iload_n 1, 1) := by decide +kernel
theorem dX7_ask_25 : decode cX7_ask 25 = .ok (.aload_n 0, 1) := by decide +kernel
theorem dX7_ask_26 : decode cX7_ask 26 = .ok (.getfield 116, 3) := by decide +kernel
theorem dX7_ask_29 : decode cX7_ask 29 = .ok (.aload_n 0, 1) := by decide +kernel
theorem dX7_ask_30 : decode cX7_ask 30 = .ok (.getfield 7, 3) := by decide +kernel
theorem dX7_ask_33 : decode cX7_ask 33 = .ok (.aload_n 0, 1) := by decide +kernel
theorem dX7_ask_34 : decode cX7_ask 34 = .ok (.getfield 25, 3) := by decide +kernel
theorem dX7_ask_37 : decode cX7_ask 37 = .ok (.iload_n 1, 1) := by decide +kernel
theorem dX7_ask_38 : decode cX7_ask 38 = .ok (.iaload, 1) := by decide +kernel
theorem dX7_ask_39 : decode cX7_ask 39 = .ok (.iaload, 1) := by decide +kernel
theorem dX7_ask_40 : decode cX7_ask 40 = .ok (.iadd, 1) := by decide +kernel
theorem dX7_ask_41 : decode cX7_ask 41 = .ok (.iastore, 1) := by decide +kernel
theorem dX7_ask_42 : decode cX7_ask 42 = .ok (.aload_n 0, 1) := by decide +kernel
theorem dX7_ask_43 : decode cX7_ask 43 = .ok (.getfield 57, 3) := by decide +kernel
theorem dX7_ask_46 : decode cX7_ask 46 = .ok (.iload_n 1, 1) := by decide +kernel
theorem dX7_ask_47 : decode cX7_ask 47 = .ok (.iaload, 1) := by decide +kernel
theorem dX7_ask_48 : decode cX7_ask 48 = .ok (.ireturn, 1) := by decide +kernel
theorem dX7_extend_0 : decode cX7_extend 0 = .ok (.aload_n 0, 1) := by decide +kernel
theorem dX7_extend_1 : decode cX7_extend 1 = .ok (.iload_n 1, 1) := by decide +kernel
theorem dX7_extend_2 : decode cX7_extend 2 = .ok (.invokevirtual 126, 3) := by decide +kernel
theorem dX7_extend_5 : decode cX7_extend 5 = .ok (.ifCond .eq 5, 3) := by decide +kernel
theorem dX7_extend_8 : decode cX7_extend 8 = .ok (.iconst 0, 1) := by decide +kernel
theorem dX7_extend_9 : decode cX7_extend 9 = .ok (.ireturn, 1) := by decide +kernel
theorem dX7_extend_10 : decode cX7_extend 10 = .ok (.aload_n 0, 1) := by decide +kernel
theorem dX7_extend_11 : decode cX7_extend 11 = .ok (.iload_n 1, 1) := by decide +kernel
theorem dX7_extend_12 : decode cX7_extend 12 = .ok (.invokevirtual 105, 3) := by decide +kernel
theorem dX7_extend_15 : decode cX7_extend 15 = .ok (.ifCond .ne 35, 3) := by decide +kernel
theorem dX7_extend_18 : decode cX7_extend 18 = .ok (.aload_n 0, 1) := by decide +kernel
theorem dX7_extend_19 : decode cX7_extend 19 = .ok (.getfield 40, 3) := by decide +kernel
theorem dX7_extend_22 : decode cX7_extend 22 = .ok (.iload_n 1, 1) := by decide +kernel
theorem dX7_extend_23 : decode cX7_extend 23 = .ok (.caload, 1) := by decide +kernel
theorem dX7_extend_24 : decode cX7_extend 24 = .ok (.bipush 97, 2) := by decide +kernel
theorem dX7_extend_26 : decode cX7_extend 26 = .ok (.if_icmp .ne 24, 3) := by decide +kernel
theorem dX7_extend_29 : decode cX7_extend 29 = .ok (.aload_n 0, 1) := by decide +kernel
theorem dX7_extend_30 : decode cX7_extend 30 = .ok (.iload_n 1, 1) := by decide +kernel
theorem dX7_extend_31 : decode cX7_extend 31 = .ok (.invokevirtual 139, 3) := by decide +kernel
theorem dX7_extend_34 : decode cX7_extend 34 = .ok (.ifCond .ne 16, 3) := by decide +kernel
theorem dX7_extend_37 : decode cX7_extend 37 = .ok (.aload_n 0, 1) := by decide +kernel
theorem dX7_extend_38 : decode cX7_extend 38 = .ok (.getfield 60, 3) := by decide +kernel
theorem dX7_extend_41 : decode cX7_extend 41 = .ok (.iload_n 1, 1) := by decide +kernel
theorem dX7_extend_42 : decode cX7_extend 42 = .ok (.baload, 1) := by decide +kernel
theorem dX7_extend_43 : decode cX7_extend 43 = .ok (.ifCond .ne 7, 3) := by decide +kernel
theorem dX7_extend_46 : decode cX7_extend 46 = .ok (.iconst 1, 1) := by decide +kernel
theorem dX7_extend_47 : decode cX7_extend 47 = .ok (.goto 4, 3) := by decide +kernel
theorem dX7_extend_50 : decode cX7_extend 50 = .ok (.iconst 0, 1) := by decide +kernel
theorem dX7_extend_51 : decode cX7_extend 51 = .ok (.istore_n 3, 1) := by decide +kernel
theorem dX7_extend_52 : decode cX7_extend 52 = .ok (.aload_n 0, 1) := by decide +kernel
theorem dX7_extend_53 : decode cX7_extend 53 = .ok (.iload_n 2, 1) := by decide +kernel
theorem dX7_extend_54 : decode cX7_extend 54 = .ok (.iconst 1, 1) := by decide +kernel
theorem dX7_extend_55 : decode cX7_extend 55 = .ok (.bipush 30, 2) := by decide +kernel
theorem dX7_extend_57 : decode cX7_extend 57 = .ok (.invokestatic 94, 3) := by decide +kernel
theorem dX7_extend_60 : decode cX7_extend 60 = .ok (.ifCond .ne 7, 3) := by decide +kernel
theorem dX7_extend_63 : decode cX7_extend 63 = .ok (.iconst 2, 1) := by decide +kernel
theorem dX7_extend_64 : decode cX7_extend 64 = .ok (.goto 12, 3) := by decide +kernel
theorem dX7_extend_67 : decode cX7_extend 67 = .ok (.iload_n 3, 1) := by decide +kernel
theorem dX7_extend_68 : decode cX7_extend 68 = .ok (.ifCond .ne 7, 3) := by decide +kernel
theorem dX7_extend_71 : decode cX7_extend 71 = .ok (.iconst 3, 1) := by decide +kernel
theorem dX7_extend_72 : decode cX7_extend 72 = .ok (.goto 4, 3) := by decide +kernel
theorem dX7_extend_75 : decode cX7_extend 75 = .ok (.iconst 0, 1) := by decide +kernel
theorem dX7_extend_76 : decode cX7_extend 76 = .ok (.putfield 87, 3) := by decide +kernel
theorem dX7_extend_79 : decode cX7_extend 79 = .ok (.aload_n 0, 1) := by decide +kernel
theorem dX7_extend_80 : decode cX7_extend 80 = .ok (.getfield 87, 3) := by decide +kernel
theorem dX7_extend_83 : decode cX7_extend 83 = .ok (.ifCond .le 5, 3) := by decide +kernel
theorem dX7_extend_86 : decode cX7_extend 86 = .ok (.iconst 0, 1) := by decide +kernel
theorem dX7_extend_87 : decode cX7_extend 87 = .ok (.ireturn, 1) := by decide +kernel
theorem dX7_extend_88 : decode cX7_extend 88 = .ok (.aload_n 0, 1) := by decide +kernel
theorem dX7_extend_89 : decode cX7_extend 89 = .ok (.getfield 60, 3) := by decide +kernel
theorem dX7_extend_92 : decode cX7_extend 92 = .ok (.iload_n 1, 1) := by decide +kernel
theorem dX7_extend_93 : decode cX7_extend 93 = .ok (.iconst 1, 1) := by decide +kernel
theorem dX7_extend_94 : decode cX7_extend 94 = .ok (.bastore, 1) := by decide +kernel
theorem dX7_extend_95 : decode cX7_extend 95 = .ok (.aload_n 0, 1) := by decide +kernel
theorem dX7_extend_96 : decode cX7_extend 96 = .ok (.getfield 57, 3) := by decide +kernel
theorem dX7_extend_99 : decode cX7_extend 99 = .ok (.iload_n 1, 1) := by decide +kernel
theorem dX7_extend_100 : decode cX7_extend 100 = .ok (.dup2, 1) := by decide +kernel
theorem dX7_extend_101 : decode cX7_extend 101 = .ok (.iaload, 1) := by decide +kernel
theorem dX7_extend_102 : decode cX7_extend 102 = .ok (.iload_n 2, 1) := by decide +kernel
theorem dX7_extend_103 : decode cX7_extend 103 = .ok (.iadd, 1) := by decide +kernel
theorem dX7_extend_104 : decode cX7_extend 104 = .ok (.iastore, 1) := by decide +kernel
theorem dX7_extend_105 : decode cX7_extend 105 = .ok (.aload_n 0, 1) := by decide +kernel
theorem dX7_extend_106 : decode cX7_extend 106 = .ok (.getfield 57, 3) := by decide +kernel
theorem dX7_extend_109 : decode cX7_extend 109 = .ok (.iload_n 1, 1) := by decide +kernel
theorem dX7_extend_110 : decode cX7_extend 110 = .ok (.iaload, 1) := by decide +kernel
theorem dX7_extend_111 : decode cX7_extend 111 = .ok (.ireturn, 1) := by decide +kernel
theorem dX7_remind_0 : decode cX7_remind 0 = .ok (.aload_n 0, 1) := by decide +kernel
theorem dX7_remind_1 : decode cX7_remind 1 = .ok (.iload_n 1, 1) := by decide +kernel
theorem dX7_remind_2 : decode cX7_remind 2 = .ok (.bipush 97, 2) := by decide +kernel
theorem dX7_remind_4 : decode cX7_remind 4 = .ok (.invokevirtual 135, 3) := by decide +kernel
theorem dX7_remind_7 : decode cX7_remind 7 = .ok (.ifCond .eq 5, 3) := by decide +kernel
theorem dX7_remind_10 : decode cX7_remind 10 = .ok (.iconst 0, 1) := by decide +kernel
theorem dX7_remind_11 : decode cX7_remind 11 = .ok (.ireturn, 1) := by decide +kernel
theorem dX7_remind_12 : decode cX7_remind 12 = .ok (.aload_n 0, 1) := by decide +kernel
theorem dX7_remind_13 : decode cX7_remind 13 = .ok (.aload_n 0, 1) := by decide +kernel
theorem dX7_remind_14 : decode cX7_remind 14 = .ok (.iload_n 1, 1) := by decide +kernel
theorem dX7_remind_15 : decode cX7_remind 15 = .ok (.invokevirtual 139, 3) := by decide +kernel
theorem dX7_remind_18 : decode cX7_remind 18 = .ok (.ifCond .eq 13, 3) := by decide +kernel
theorem dX7_remind_21 : decode cX7_remind 21 = .ok (.aload_n 0, 1) := by decide +kernel
theorem dX7_remind_22 : decode cX7_remind 22 = .ok (.getfield 63, 3) := by decide +kernel
theorem dX7_remind_25 : decode cX7_remind 25 = .ok (.iload_n 1, 1) := by decide +kernel
theorem dX7_remind_26 : decode cX7_remind 26 = .ok (.iaload, 1) := by decide +kernel
theorem dX7_remind_27 : decode cX7_remind 27 = .ok (.iconst 3, 1) := by decide +kernel
theorem dX7_remind_28 : decode cX7_remind 28 = .ok (.if_icmp .ne 7, 3) := by decide +kernel
theorem dX7_remind_31 : decode cX7_remind 31 = .ok (.iconst 2, 1) := by decide +kernel
theorem dX7_remind_32 : decode cX7_remind 32 = .ok (.goto 4, 3) := by decide +kernel
theorem dX7_remind_35 : decode cX7_remind 35 = .ok (.iconst 0, 1) := by decide +kernel
theorem dX7_remind_36 : decode cX7_remind 36 = .ok (.putfield 87, 3) := by decide +kernel
theorem dX7_remind_39 : decode cX7_remind 39 = .ok (.aload_n 0, 1) := by decide +kernel
theorem dX7_remind_40 : decode cX7_remind 40 = .ok (.getfield 87, 3) := by decide +kernel
theorem dX7_remind_43 : decode cX7_remind 43 = .ok (.ifCond .le 5, 3) := by decide +kernel
theorem dX7_remind_46 : decode cX7_remind 46 = .ok (.iconst 0, 1) := by decide +kernel
theorem dX7_remind_47 : decode cX7_remind 47 = .ok (.ireturn, 1) := by decide +kernel
theorem dX7_remind_48 : decode cX7_remind 48 = .ok (.aload_n 0, 1) := by decide +kernel
theorem dX7_remind_49 : decode cX7_remind 49 = .ok (.getfield 63, 3) := by decide +kernel
theorem dX7_remind_52 : decode cX7_remind 52 = .ok (.iload_n 1, 1) := by decide +kernel
theorem dX7_remind_53 : decode cX7_remind 53 = .ok (.dup2, 1) := by decide +kernel
theorem dX7_remind_54 : decode cX7_remind 54 = .ok (.iaload, 1) := by decide +kernel
theorem dX7_remind_55 : decode cX7_remind 55 = .ok (.iconst 1, 1) := by decide +kernel
theorem dX7_remind_56 : decode cX7_remind 56 = .ok (.iadd, 1) := by decide +kernel
theorem dX7_remind_57 : decode cX7_remind 57 = .ok (.iastore, 1) := by decide +kernel
theorem dX7_remind_58 : decode cX7_remind 58 = .ok (.aload_n 0, 1) := by decide +kernel
theorem dX7_remind_59 : decode cX7_remind 59 = .ok (.getfield 57, 3) := by decide +kernel
theorem dX7_remind_62 : decode cX7_remind 62 = .ok (.iload_n 1, 1) := by decide +kernel
theorem dX7_remind_63 : decode cX7_remind 63 = .ok (.aload_n 0, 1) := by decide +kernel
theorem dX7_remind_64 : decode cX7_remind 64 = .ok (.getfield 116, 3) := by decide +kernel
theorem dX7_remind_67 : decode cX7_remind 67 = .ok (.bipush 7, 2) := by decide +kernel
theorem dX7_remind_69 : decode cX7_remind 69 = .ok (.iadd, 1) := by decide +kernel
theorem dX7_remind_70 : decode cX7_remind 70 = .ok (.iastore, 1) := by decide +kernel
theorem dX7_remind_71 : decode cX7_remind 71 = .ok (.aload_n 0, 1) := by decide +kernel
theorem dX7_remind_72 : decode cX7_remind 72 = .ok (.getfield 63, 3) := by decide +kernel
theorem dX7_remind_75 : decode cX7_remind 75 = .ok (.iload_n 1, 1) := by decide +kernel
theorem dX7_remind_76 : decode cX7_remind 76 = .ok (.iaload, 1) := by decide +kernel
theorem dX7_remind_77 : decode cX7_remind 77 = .ok (.ireturn, 1) := by decide +kernel
theorem dX7_answer_0 : decode cX7_answer 0 = .ok (.aload_n 0, 1) := by decide +kernel
theorem dX7_answer_1 : decode cX7_answer 1 = .ok (.iload_n 1, 1) := by decide +kernel
theorem dX7_answer_2 : decode cX7_answer 2 = .ok (.bipush 97, 2) := by decide +kernel
theorem dX7_answer_4 : decode cX7_answer 4 = .ok (.invokevirtual 135, 3) := by decide +kernel
theorem dX7_answer_7 : decode cX7_answer 7 = .ok (.ifCond .eq 5, 3) := by decide +kernel
theorem dX7_answer_10 : decode cX7_answer 10 = .ok (.iconst 0, 1) := by decide +kernel
theorem dX7_answer_11 : decode cX7_answer 11 = .ok (.ireturn, 1) := by decide +kernel
theorem dX7_answer_12 : decode cX7_answer 12 = .ok (.aload_n 0, 1) := by decide +kernel
theorem dX7_answer_13 : decode cX7_answer 13 = .ok (.getfield 116, 3) := by decide +kernel
theorem dX7_answer_16 : decode cX7_answer 16 = .ok (.aload_n 0, 1) := by decide +kernel
theorem dX7_answer_17 : decode cX7_answer 17 = .ok (.getfield 57, 3) := by decide +kernel
theorem dX7_answer_20 : decode cX7_answer 20 = .ok (.iload_n 1, 1) := by decide +kernel
theorem dX7_answer_21 : decode cX7_answer 21 = .ok (.iaload, 1) := by decide +kernel
theorem dX7_answer_22 : decode cX7_answer 22 = .ok (.if_icmp .le 17, 3) := by decide +kernel
theorem dX7_answer_25 : decode cX7_answer 25 = .ok (.aload_n 0, 1) := by decide +kernel
theorem dX7_answer_26 : decode cX7_answer 26 = .ok (.getfield 116, 3) := by decide +kernel
theorem dX7_answer_29 : decode cX7_answer 29 = .ok (.aload_n 0, 1) := by decide +kernel
theorem dX7_answer_30 : decode cX7_answer 30 = .ok (.getfield 57, 3) := by decide +kernel
theorem dX7_answer_33 : decode cX7_answer 33 = .ok (.iload_n 1, 1) := by decide +kernel
theorem dX7_answer_34 : decode cX7_answer 34 = .ok (.iaload, 1) := by decide +kernel
theorem dX7_answer_35 : decode cX7_answer 35 = .ok (.isub, 1) := by decide +kernel
theorem dX7_answer_36 : decode cX7_answer 36 = .ok (.goto 4, 3) := by decide +kernel
theorem dX7_answer_39 : decode cX7_answer 39 = .ok (.iconst 0, 1) := by decide +kernel
theorem dX7_answer_40 : decode cX7_answer 40 = .ok (.istore_n 2, 1) := by decide +kernel
theorem dX7_answer_41 : decode cX7_answer 41 = .ok (.aload_n 0, 1) := by decide +kernel
theorem dX7_answer_42 : decode cX7_answer 42 = .ok (.getfield 40, 3) := by decide +kernel
theorem dX7_answer_45 : decode cX7_answer 45 = .ok (.iload_n 1, 1) := by decide +kernel
theorem dX7_answer_46 : decode cX7_answer 46 = .ok (.bipush 115, 2) := by decide +kernel
theorem dX7_answer_48 : decode cX7_answer 48 = .ok (.castore, 1) := by decide +kernel
theorem dX7_answer_49 : decode cX7_answer 49 = .ok (.iload_n 2, 1) := by decide +kernel
theorem dX7_answer_50 : decode cX7_answer 50 = .ok (.ireturn, 1) := by decide +kernel
theorem dX7_takeSilence_0 : decode cX7_takeSilence 0 = .ok (.aload_n 0, 1) := by decide +kernel
theorem dX7_takeSilence_1 : decode cX7_takeSilence 1 = .ok (.iload_n 1, 1) := by decide +kernel
theorem dX7_takeSilence_2 : decode cX7_takeSilence 2 = .ok (.bipush 97, 2) := by decide +kernel
theorem dX7_takeSilence_4 : decode cX7_takeSilence 4 = .ok (.invokevirtual 135, 3) := by decide +kernel
theorem dX7_takeSilence_7 : decode cX7_takeSilence 7 = .ok (.ifCond .eq 5, 3) := by decide +kernel
theorem dX7_takeSilence_10 : decode cX7_takeSilence 10 = .ok (.iconst 0, 1) := by decide +kernel
theorem dX7_takeSilence_11 : decode cX7_takeSilence 11 = .ok (.ireturn, 1) := by decide +kernel
theorem dX7_takeSilence_12 : decode cX7_takeSilence 12 = .ok (.aload_n 0, 1) := by decide +kernel
theorem dX7_takeSilence_13 : decode cX7_takeSilence 13 = .ok (.aload_n 0, 1) := by decide +kernel
theorem dX7_takeSilence_14 : decode cX7_takeSilence 14 = .ok (.iload_n 1, 1) := by decide +kernel
theorem dX7_takeSilence_15 : decode cX7_takeSilence 15 = .ok (.invokevirtual 139, 3) := by decide +kernel
theorem dX7_takeSilence_18 : decode cX7_takeSilence 18 = .ok (.ifCond .eq 13, 3) := by decide +kernel
theorem dX7_takeSilence_21 : decode cX7_takeSilence 21 = .ok (.aload_n 0, 1) := by decide +kernel
theorem dX7_takeSilence_22 : decode cX7_takeSilence 22 = .ok (.getfield 63, 3) := by decide +kernel
theorem dX7_takeSilence_25 : decode cX7_takeSilence 25 = .ok (.iload_n 1, 1) := by decide +kernel
theorem dX7_takeSilence_26 : decode cX7_takeSilence 26 = .ok (.iaload, 1) := by decide +kernel
theorem dX7_takeSilence_27 : decode cX7_takeSilence 27 = .ok (.iconst 3, 1) := by decide +kernel
theorem dX7_takeSilence_28 : decode cX7_takeSilence 28 = .ok (.if_icmp .ge 7, 3) := by decide +kernel
theorem dX7_takeSilence_31 : decode cX7_takeSilence 31 = .ok (.iconst 2, 1) := by decide +kernel
theorem dX7_takeSilence_32 : decode cX7_takeSilence 32 = .ok (.goto 4, 3) := by decide +kernel
theorem dX7_takeSilence_35 : decode cX7_takeSilence 35 = .ok (.iconst 0, 1) := by decide +kernel
theorem dX7_takeSilence_36 : decode cX7_takeSilence 36 = .ok (.putfield 87, 3) := by decide +kernel
theorem dX7_takeSilence_39 : decode cX7_takeSilence 39 = .ok (.aload_n 0, 1) := by decide +kernel
theorem dX7_takeSilence_40 : decode cX7_takeSilence 40 = .ok (.getfield 87, 3) := by decide +kernel
theorem dX7_takeSilence_43 : decode cX7_takeSilence 43 = .ok (.ifCond .le 5, 3) := by decide +kernel
theorem dX7_takeSilence_46 : decode cX7_takeSilence 46 = .ok (.iconst 0, 1) := by decide +kernel
theorem dX7_takeSilence_47 : decode cX7_takeSilence 47 = .ok (.ireturn, 1) := by decide +kernel
theorem dX7_takeSilence_48 : decode cX7_takeSilence 48 = .ok (.aload_n 0, 1) := by decide +kernel
theorem dX7_takeSilence_49 : decode cX7_takeSilence 49 = .ok (.getfield 66, 3) := by decide +kernel
theorem dX7_takeSilence_52 : decode cX7_takeSilence 52 = .ok (.iload_n 1, 1) := by decide +kernel
theorem dX7_takeSilence_53 : decode cX7_takeSilence 53 = .ok (.iconst 1, 1) := by decide +kernel
theorem dX7_takeSilence_54 : decode cX7_takeSilence 54 = .ok (.bastore, 1) := by decide +kernel
theorem dX7_takeSilence_55 : decode cX7_takeSilence 55 = .ok (.aload_n 0, 1) := by decide +kernel
theorem dX7_takeSilence_56 : decode cX7_takeSilence 56 = .ok (.getfield 40, 3) := by decide +kernel
theorem dX7_takeSilence_59 : decode cX7_takeSilence 59 = .ok (.iload_n 1, 1) := by decide +kernel
theorem dX7_takeSilence_60 : decode cX7_takeSilence 60 = .ok (.bipush 115, 2) := by decide +kernel
theorem dX7_takeSilence_62 : decode cX7_takeSilence 62 = .ok (.castore, 1) := by decide +kernel
theorem dX7_takeSilence_63 : decode cX7_takeSilence 63 = .ok (.iconst 1, 1) := by decide +kernel
theorem dX7_takeSilence_64 : decode cX7_takeSilence 64 = .ok (.aload_n 0, 1) := by decide +kernel
theorem dX7_takeSilence_65 : decode cX7_takeSilence 65 = .ok (.iload_n 1, 1) := by decide +kernel
theorem dX7_takeSilence_66 : decode cX7_takeSilence 66 = .ok (.invokevirtual 142, 3) := by decide +kernel
theorem dX7_takeSilence_69 : decode cX7_takeSilence 69 = .ok (.iadd, 1) := by decide +kernel
theorem dX7_takeSilence_70 : decode cX7_takeSilence 70 = .ok (.ireturn, 1) := by decide +kernel
theorem dX7_isOverdue_0 : decode cX7_isOverdue 0 = .ok (.aload_n 0, 1) := by decide +kernel
theorem dX7_isOverdue_1 : decode cX7_isOverdue 1 = .ok (.iload_n 1, 1) := by decide +kernel
theorem dX7_isOverdue_2 : decode cX7_isOverdue 2 = .ok (.invokevirtual 126, 3) := by decide +kernel
theorem dX7_isOverdue_5 : decode cX7_isOverdue 5 = .ok (.ifCond .ne 19, 3) := by decide +kernel
theorem dX7_isOverdue_8 : decode cX7_isOverdue 8 = .ok (.aload_n 0, 1) := by decide +kernel
theorem dX7_isOverdue_9 : decode cX7_isOverdue 9 = .ok (.aload_n 0, 1) := by decide +kernel
theorem dX7_isOverdue_10 : decode cX7_isOverdue 10 = .ok (.iload_n 1, 1) := by decide +kernel
theorem dX7_isOverdue_11 : decode cX7_isOverdue 11 = .ok (.invokevirtual 108, 3) := by decide +kernel
theorem dX7_isOverdue_14 : decode cX7_isOverdue 14 = .ok (.invokevirtual 139, 3) := by decide +kernel
theorem dX7_isOverdue_17 : decode cX7_isOverdue 17 = .ok (.ifCond .eq 7, 3) := by decide +kernel
theorem dX7_isOverdue_20 : decode cX7_isOverdue 20 = .ok (.iconst 1, 1) := by decide +kernel
theorem dX7_isOverdue_21 : decode cX7_isOverdue 21 = .ok (.goto 4, 3) := by decide +kernel
theorem dX7_isOverdue_24 : decode cX7_isOverdue 24 = .ok (.iconst 0, 1) := by decide +kernel
theorem dX7_isOverdue_25 : decode cX7_isOverdue 25 = .ok (.ireturn, 1) := by decide +kernel
theorem dX7_nextDue_0 : decode cX7_nextDue 0 = .ok (.iconst (-1), 1) := by decide +kernel
theorem dX7_nextDue_1 : decode cX7_nextDue 1 = .ok (.istore_n 1, 1) := by decide +kernel
theorem dX7_nextDue_2 : decode cX7_nextDue 2 = .ok (.iconst 0, 1) := by decide +kernel
theorem dX7_nextDue_3 : decode cX7_nextDue 3 = .ok (.istore_n 2, 1) := by decide +kernel
theorem dX7_nextDue_4 : decode cX7_nextDue 4 = .ok (.iload_n 2, 1) := by decide +kernel
theorem dX7_nextDue_5 : decode cX7_nextDue 5 = .ok (.aload_n 0, 1) := by decide +kernel
theorem dX7_nextDue_6 : decode cX7_nextDue 6 = .ok (.getfield 98, 3) := by decide +kernel
theorem dX7_nextDue_9 : decode cX7_nextDue 9 = .ok (.if_icmp .ge 88, 3) := by decide +kernel
theorem dX7_nextDue_12 : decode cX7_nextDue 12 = .ok (.aload_n 0, 1) := by decide +kernel
theorem dX7_nextDue_13 : decode cX7_nextDue 13 = .ok (.iload_n 2, 1) := by decide +kernel
theorem dX7_nextDue_14 : decode cX7_nextDue 14 = .ok (.invokevirtual 105, 3) := by decide +kernel
theorem dX7_nextDue_17 : decode cX7_nextDue 17 = .ok (.ifCond .ne 42, 3) := by decide +kernel
theorem dX7_nextDue_20 : decode cX7_nextDue 20 = .ok (.aload_n 0, 1) := by decide +kernel
theorem dX7_nextDue_21 : decode cX7_nextDue 21 = .ok (.getfield 40, 3) := by decide +kernel
theorem dX7_nextDue_24 : decode cX7_nextDue 24 = .ok (.iload_n 2, 1) := by decide +kernel
theorem dX7_nextDue_25 : decode cX7_nextDue 25 = .ok (.caload, 1) := by decide +kernel
theorem dX7_nextDue_26 : decode cX7_nextDue 26 = .ok (.bipush 97, 2) := by decide +kernel
theorem dX7_nextDue_28 : decode cX7_nextDue 28 = .ok (.if_icmp .eq 14, 3) := by decide +kernel
theorem dX7_nextDue_31 : decode cX7_nextDue 31 = .ok (.aload_n 0, 1) := by decide +kernel
theorem dX7_nextDue_32 : decode cX7_nextDue 32 = .ok (.getfield 40, 3) := by decide +kernel
theorem dX7_nextDue_35 : decode cX7_nextDue 35 = .ok (.iload_n 2, 1) := by decide +kernel
theorem dX7_nextDue_36 : decode cX7_nextDue 36 = .ok (.caload, 1) := by decide +kernel
theorem dX7_nextDue_37 : decode cX7_nextDue 37 = .ok (.bipush 100, 2) := by decide +kernel
theorem dX7_nextDue_39 : decode cX7_nextDue 39 = .ok (.if_icmp .ne 20, 3) := by decide +kernel
theorem dX7_nextDue_42 : decode cX7_nextDue 42 = .ok (.aload_n 0, 1) := by decide +kernel
theorem dX7_nextDue_43 : decode cX7_nextDue 43 = .ok (.getfield 57, 3) := by decide +kernel
theorem dX7_nextDue_46 : decode cX7_nextDue 46 = .ok (.iload_n 2, 1) := by decide +kernel
theorem dX7_nextDue_47 : decode cX7_nextDue 47 = .ok (.iaload, 1) := by decide +kernel
theorem dX7_nextDue_48 : decode cX7_nextDue 48 = .ok (.aload_n 0, 1) := by decide +kernel
theorem dX7_nextDue_49 : decode cX7_nextDue 49 = .ok (.getfield 116, 3) := by decide +kernel
theorem dX7_nextDue_52 : decode cX7_nextDue 52 = .ok (.if_icmp .lt 7, 3) := by decide +kernel
theorem dX7_nextDue_55 : decode cX7_nextDue 55 = .ok (.iconst 1, 1) := by decide +kernel
theorem dX7_nextDue_56 : decode cX7_nextDue 56 = .ok (.goto 4, 3) := by decide +kernel
theorem dX7_nextDue_59 : decode cX7_nextDue 59 = .ok (.iconst 0, 1) := by decide +kernel
theorem dX7_nextDue_60 : decode cX7_nextDue 60 = .ok (.istore_n 3, 1) := by decide +kernel
theorem dX7_nextDue_61 : decode cX7_nextDue 61 = .ok (.iload_n 3, 1) := by decide +kernel
theorem dX7_nextDue_62 : decode cX7_nextDue 62 = .ok (.ifCond .eq 27, 3) := by decide +kernel
theorem dX7_nextDue_65 : decode cX7_nextDue 65 = .ok (.iload_n 1, 1) := by decide +kernel
theorem dX7_nextDue_66 : decode cX7_nextDue 66 = .ok (.iconst (-1), 1) := by decide +kernel
theorem dX7_nextDue_67 : decode cX7_nextDue 67 = .ok (.if_icmp .eq 13, 3) := by decide +kernel
theorem dX7_nextDue_70 : decode cX7_nextDue 70 = .ok (.aload_n 0, 1) := by decide +kernel
theorem dX7_nextDue_71 : decode cX7_nextDue 71 = .ok (.getfield 57, 3) := by decide +kernel
theorem dX7_nextDue_74 : decode cX7_nextDue 74 = .ok (.iload_n 2, 1) := by decide +kernel
theorem dX7_nextDue_75 : decode cX7_nextDue 75 = .ok (.iaload, 1) := by decide +kernel
theorem dX7_nextDue_76 : decode cX7_nextDue 76 = .ok (.iload_n 1, 1) := by decide +kernel
theorem dX7_nextDue_77 : decode cX7_nextDue 77 = .ok (.if_icmp .ge 12, 3) := by decide +kernel
theorem dX7_nextDue_80 : decode cX7_nextDue 80 = .ok (.aload_n 0, 1) := by decide +kernel
theorem dX7_nextDue_81 : decode cX7_nextDue 81 = .ok (.getfield 57, 3) := by decide +kernel
theorem dX7_nextDue_84 : decode cX7_nextDue 84 = .ok (.iload_n 2, 1) := by decide +kernel
theorem dX7_nextDue_85 : decode cX7_nextDue 85 = .ok (.iaload, 1) := by decide +kernel
theorem dX7_nextDue_86 : decode cX7_nextDue 86 = .ok (.goto 4, 3) := by decide +kernel
theorem dX7_nextDue_89 : decode cX7_nextDue 89 = .ok (.iload_n 1, 1) := by decide +kernel
theorem dX7_nextDue_90 : decode cX7_nextDue 90 = .ok (.istore_n 1, 1) := by decide +kernel
theorem dX7_nextDue_91 : decode cX7_nextDue 91 = .ok (.iinc 2 1, 3) := by decide +kernel
theorem dX7_nextDue_94 : decode cX7_nextDue 94 = .ok (.goto (-90), 3) := by decide +kernel
theorem dX7_nextDue_97 : decode cX7_nextDue 97 = .ok (.aload_n 0, 1) := by decide +kernel
theorem dX7_nextDue_98 : decode cX7_nextDue 98 = .ok (.iload_n 1, 1) := by decide +kernel
theorem dX7_nextDue_99 : decode cX7_nextDue 99 = .ok (.iconst (-1), 1) := by decide +kernel
theorem dX7_nextDue_100 : decode cX7_nextDue 100 = .ok (.if_icmp .ne 7, 3) := by decide +kernel
theorem dX7_nextDue_103 : decode cX7_nextDue 103 = .ok (.iconst 1, 1) := by decide +kernel
theorem dX7_nextDue_104 : decode cX7_nextDue 104 = .ok (.goto 4, 3) := by decide +kernel
theorem dX7_nextDue_107 : decode cX7_nextDue 107 = .ok (.iconst 0, 1) := by decide +kernel
theorem dX7_nextDue_108 : decode cX7_nextDue 108 = .ok (.putfield 87, 3) := by decide +kernel
theorem dX7_nextDue_111 : decode cX7_nextDue 111 = .ok (.aload_n 0, 1) := by decide +kernel
theorem dX7_nextDue_112 : decode cX7_nextDue 112 = .ok (.getfield 87, 3) := by decide +kernel
theorem dX7_nextDue_115 : decode cX7_nextDue 115 = .ok (.ifCond .le 7, 3) := by decide +kernel
theorem dX7_nextDue_118 : decode cX7_nextDue 118 = .ok (.iconst 0, 1) := by decide +kernel
theorem dX7_nextDue_119 : decode cX7_nextDue 119 = .ok (.goto 4, 3) := by decide +kernel
theorem dX7_nextDue_122 : decode cX7_nextDue 122 = .ok (.iload_n 1, 1) := by decide +kernel
theorem dX7_nextDue_123 : decode cX7_nextDue 123 = .ok (.ireturn, 1) := by decide +kernel
theorem dX7_join_0 : decode cX7_join 0 = .ok (.aload_n 0, 1) := by decide +kernel
theorem dX7_join_1 : decode cX7_join 1 = .ok (.aload_n 0, 1) := by decide +kernel
theorem dX7_join_2 : decode cX7_join 2 = .ok (.iload_n 1, 1) := by decide +kernel
theorem dX7_join_3 : decode cX7_join 3 = .ok (.invokevirtual 101, 3) := by decide +kernel
theorem dX7_join_6 : decode cX7_join 6 = .ok (.ifCond .eq 11, 3) := by decide +kernel
theorem dX7_join_9 : decode cX7_join 9 = .ok (.aload_n 0, 1) := by decide +kernel
theorem dX7_join_10 : decode cX7_join 10 = .ok (.iload_n 2, 1) := by decide +kernel
theorem dX7_join_11 : decode cX7_join 11 = .ok (.invokevirtual 101, 3) := by decide +kernel
theorem dX7_join_14 : decode cX7_join 14 = .ok (.ifCond .ne 7, 3) := by decide +kernel
theorem dX7_join_17 : decode cX7_join 17 = .ok (.iconst 1, 1) := by decide +kernel
theorem dX7_join_18 : decode cX7_join 18 = .ok (.goto 13, 3) := by decide +kernel
theorem dX7_join_21 : decode cX7_join 21 = .ok (.iload_n 1, 1) := by decide +kernel
theorem dX7_join_22 : decode cX7_join 22 = .ok (.iload_n 2, 1) := by decide +kernel
theorem dX7_join_23 : decode cX7_join 23 = .ok (.if_icmp .ne 7, 3) := by decide +kernel
theorem dX7_join_26 : decode cX7_join 26 = .ok (.iconst 2, 1) := by decide +kernel
theorem dX7_join_27 : decode cX7_join 27 = .ok (.goto 4, 3) := by decide +kernel
theorem dX7_join_30 : decode cX7_join 30 = .ok (.iconst 0, 1) := by decide +kernel
theorem dX7_join_31 : decode cX7_join 31 = .ok (.putfield 87, 3) := by decide +kernel
theorem dX7_join_34 : decode cX7_join 34 = .ok (.aload_n 0, 1) := by decide +kernel
theorem dX7_join_35 : decode cX7_join 35 = .ok (.getfield 87, 3) := by decide +kernel
theorem dX7_join_38 : decode cX7_join 38 = .ok (.ifCond .le 5, 3) := by decide +kernel
theorem dX7_join_41 : decode cX7_join 41 = .ok (.iconst 0, 1) := by decide +kernel
theorem dX7_join_42 : decode cX7_join 42 = .ok (.ireturn, 1) := by decide +kernel
theorem dX7_join_43 : decode cX7_join 43 = .ok (.aload_n 0, 1) := by decide +kernel
theorem dX7_join_44 : decode cX7_join 44 = .ok (.iload_n 1, 1) := by decide +kernel
theorem dX7_join_45 : decode cX7_join 45 = .ok (.invokevirtual 105, 3) := by decide +kernel
theorem dX7_join_48 : decode cX7_join 48 = .ok (.ifCond .ne 26, 3) := by decide +kernel
theorem dX7_join_51 : decode cX7_join 51 = .ok (.aload_n 0, 1) := by decide +kernel
theorem dX7_join_52 : decode cX7_join 52 = .ok (.getfield 40, 3) := by decide +kernel
theorem dX7_join_55 : decode cX7_join 55 = .ok (.iload_n 1, 1) := by decide +kernel
theorem dX7_join_56 : decode cX7_join 56 = .ok (.caload, 1) := by decide +kernel
theorem dX7_join_57 : decode cX7_join 57 = .ok (.bipush 114, 2) := by decide +kernel
theorem dX7_join_59 : decode cX7_join 59 = .ok (.if_icmp .ne 15, 3) := by decide +kernel
theorem dX7_join_62 : decode cX7_join 62 = .ok (.aload_n 0, 1) := by decide +kernel
theorem dX7_join_63 : decode cX7_join 63 = .ok (.iload_n 1, 1) := by decide +kernel
theorem dX7_join_64 : decode cX7_join 64 = .ok (.invokevirtual 142, 3) := by decide +kernel
theorem dX7_join_67 : decode cX7_join 67 = .ok (.ifCond .ne 7, 3) := by decide +kernel
theorem dX7_join_70 : decode cX7_join 70 = .ok (.iconst 1, 1) := by decide +kernel
theorem dX7_join_71 : decode cX7_join 71 = .ok (.goto 4, 3) := by decide +kernel
theorem dX7_join_74 : decode cX7_join 74 = .ok (.iconst 0, 1) := by decide +kernel
theorem dX7_join_75 : decode cX7_join 75 = .ok (.istore_n 3, 1) := by decide +kernel
theorem dX7_join_76 : decode cX7_join 76 = .ok (.aload_n 0, 1) := by decide +kernel
theorem dX7_join_77 : decode cX7_join 77 = .ok (.getfield 40, 3) := by decide +kernel
theorem dX7_join_80 : decode cX7_join 80 = .ok (.iload_n 2, 1) := by decide +kernel
theorem dX7_join_81 : decode cX7_join 81 = .ok (.caload, 1) := by decide +kernel
theorem dX7_join_82 : decode cX7_join 82 = .ok (.bipush 114, 2) := by decide +kernel
theorem dX7_join_84 : decode cX7_join 84 = .ok (.if_icmp .eq 25, 3) := by decide +kernel
theorem dX7_join_87 : decode cX7_join 87 = .ok (.aload_n 0, 1) := by decide +kernel
theorem dX7_join_88 : decode cX7_join 88 = .ok (.getfield 40, 3) := by decide +kernel
theorem dX7_join_91 : decode cX7_join 91 = .ok (.iload_n 2, 1) := by decide +kernel
theorem dX7_join_92 : decode cX7_join 92 = .ok (.caload, 1) := by decide +kernel
theorem dX7_join_93 : decode cX7_join 93 = .ok (.bipush 97, 2) := by decide +kernel
theorem dX7_join_95 : decode cX7_join 95 = .ok (.if_icmp .eq 14, 3) := by decide +kernel
theorem dX7_join_98 : decode cX7_join 98 = .ok (.aload_n 0, 1) := by decide +kernel
theorem dX7_join_99 : decode cX7_join 99 = .ok (.getfield 40, 3) := by decide +kernel
theorem dX7_join_102 : decode cX7_join 102 = .ok (.iload_n 2, 1) := by decide +kernel
theorem dX7_join_103 : decode cX7_join 103 = .ok (.caload, 1) := by decide +kernel
theorem dX7_join_104 : decode cX7_join 104 = .ok (.bipush 115, 2) := by decide +kernel
theorem dX7_join_106 : decode cX7_join 106 = .ok (.if_icmp .ne 7, 3) := by decide +kernel
theorem dX7_join_109 : decode cX7_join 109 = .ok (.iconst 1, 1) := by decide +kernel
theorem dX7_join_110 : decode cX7_join 110 = .ok (.goto 4, 3) := by decide +kernel
theorem dX7_join_113 : decode cX7_join 113 = .ok (.iconst 0, 1) := by decide +kernel
theorem dX7_join_114 : decode cX7_join 114 = .ok (.istore 4, 2) := by decide +kernel
theorem dX7_join_116 : decode cX7_join 116 = .ok (.aload_n 0, 1) := by decide +kernel
theorem dX7_join_117 : decode cX7_join 117 = .ok (.iload_n 2, 1) := by decide +kernel
theorem dX7_join_118 : decode cX7_join 118 = .ok (.invokevirtual 105, 3) := by decide +kernel
theorem dX7_join_121 : decode cX7_join 121 = .ok (.ifCond .ne 42, 3) := by decide +kernel
theorem dX7_join_124 : decode cX7_join 124 = .ok (.iload 4, 2) := by decide +kernel
theorem dX7_join_126 : decode cX7_join 126 = .ok (.ifCond .eq 37, 3) := by decide +kernel
theorem dX7_join_129 : decode cX7_join 129 = .ok (.aload_n 0, 1) := by decide +kernel
theorem dX7_join_130 : decode cX7_join 130 = .ok (.getfield 25, 3) := by decide +kernel
theorem dX7_join_133 : decode cX7_join 133 = .ok (.iload_n 2, 1) := by decide +kernel
theorem dX7_join_134 : decode cX7_join 134 = .ok (.iaload, 1) := by decide +kernel
theorem dX7_join_135 : decode cX7_join 135 = .ok (.aload_n 0, 1) := by decide +kernel
theorem dX7_join_136 : decode cX7_join 136 = .ok (.getfield 25, 3) := by decide +kernel
theorem dX7_join_139 : decode cX7_join 139 = .ok (.iload_n 1, 1) := by decide +kernel
theorem dX7_join_140 : decode cX7_join 140 = .ok (.iaload, 1) := by decide +kernel
theorem dX7_join_141 : decode cX7_join 141 = .ok (.if_icmp .ne 22, 3) := by decide +kernel
theorem dX7_join_144 : decode cX7_join 144 = .ok (.aload_n 0, 1) := by decide +kernel
theorem dX7_join_145 : decode cX7_join 145 = .ok (.getfield 28, 3) := by decide +kernel
theorem dX7_join_148 : decode cX7_join 148 = .ok (.iload_n 2, 1) := by decide +kernel
theorem dX7_join_149 : decode cX7_join 149 = .ok (.iaload, 1) := by decide +kernel
theorem dX7_join_150 : decode cX7_join 150 = .ok (.aload_n 0, 1) := by decide +kernel
theorem dX7_join_151 : decode cX7_join 151 = .ok (.getfield 28, 3) := by decide +kernel
theorem dX7_join_154 : decode cX7_join 154 = .ok (.iload_n 1, 1) := by decide +kernel
theorem dX7_join_155 : decode cX7_join 155 = .ok (.iaload, 1) := by decide +kernel
theorem dX7_join_156 : decode cX7_join 156 = .ok (.if_icmp .ne 7, 3) := by decide +kernel
theorem dX7_join_159 : decode cX7_join 159 = .ok (.iconst 1, 1) := by decide +kernel
theorem dX7_join_160 : decode cX7_join 160 = .ok (.goto 4, 3) := by decide +kernel
theorem dX7_join_163 : decode cX7_join 163 = .ok (.iconst 0, 1) := by decide +kernel
theorem dX7_join_164 : decode cX7_join 164 = .ok (.istore 5, 2) := by decide +kernel
theorem dX7_join_166 : decode cX7_join 166 = .ok (.aload_n 0, 1) := by decide +kernel
theorem dX7_join_167 : decode cX7_join 167 = .ok (.iload_n 3, 1) := by decide +kernel
theorem dX7_join_168 : decode cX7_join 168 = .ok (.ifCond .eq 12, 3) := by decide +kernel
theorem dX7_join_171 : decode cX7_join 171 = .ok (.iload 5, 2) := by decide +kernel
theorem dX7_join_173 : decode cX7_join 173 = .ok (.ifCond .eq 7, 3) := by decide +kernel
theorem dX7_join_176 : decode cX7_join 176 = .ok (.iconst 0, 1) := by decide +kernel
theorem dX7_join_177 : decode cX7_join 177 = .ok (.goto 4, 3) := by decide +kernel
theorem dX7_join_180 : decode cX7_join 180 = .ok (.iconst 3, 1) := by decide +kernel
theorem dX7_join_181 : decode cX7_join 181 = .ok (.putfield 87, 3) := by decide +kernel
theorem dX7_join_184 : decode cX7_join 184 = .ok (.aload_n 0, 1) := by decide +kernel
theorem dX7_join_185 : decode cX7_join 185 = .ok (.getfield 87, 3) := by decide +kernel
theorem dX7_join_188 : decode cX7_join 188 = .ok (.ifCond .le 5, 3) := by decide +kernel
theorem dX7_join_191 : decode cX7_join 191 = .ok (.iconst 0, 1) := by decide +kernel
theorem dX7_join_192 : decode cX7_join 192 = .ok (.ireturn, 1) := by decide +kernel
theorem dX7_join_193 : decode cX7_join 193 = .ok (.aload_n 0, 1) := by decide +kernel
theorem dX7_join_194 : decode cX7_join 194 = .ok (.getfield 44, 3) := by decide +kernel
theorem dX7_join_197 : decode cX7_join 197 = .ok (.iload_n 1, 1) := by decide +kernel
theorem dX7_join_198 : decode cX7_join 198 = .ok (.iload_n 2, 1) := by decide +kernel
theorem dX7_join_199 : decode cX7_join 199 = .ok (.iastore, 1) := by decide +kernel
theorem dX7_join_200 : decode cX7_join 200 = .ok (.aload_n 0, 1) := by decide +kernel
theorem dX7_join_201 : decode cX7_join 201 = .ok (.iload_n 2, 1) := by decide +kernel
theorem dX7_join_202 : decode cX7_join 202 = .ok (.invokevirtual 142, 3) := by decide +kernel
theorem dX7_join_205 : decode cX7_join 205 = .ok (.ireturn, 1) := by decide +kernel
theorem dX7_part_0 : decode cX7_part 0 = .ok (.aload_n 0, 1) := by decide +kernel
theorem dX7_part_1 : decode cX7_part 1 = .ok (.iload_n 1, 1) := by decide +kernel
theorem dX7_part_2 : decode cX7_part 2 = .ok (.invokevirtual 126, 3) := by decide +kernel
theorem dX7_part_5 : decode cX7_part 5 = .ok (.ifCond .eq 5, 3) := by decide +kernel
theorem dX7_part_8 : decode cX7_part 8 = .ok (.iconst 0, 1) := by decide +kernel
theorem dX7_part_9 : decode cX7_part 9 = .ok (.ireturn, 1) := by decide +kernel
theorem dX7_part_10 : decode cX7_part 10 = .ok (.aload_n 0, 1) := by decide +kernel
theorem dX7_part_11 : decode cX7_part 11 = .ok (.getfield 44, 3) := by decide +kernel
theorem dX7_part_14 : decode cX7_part 14 = .ok (.iload_n 1, 1) := by decide +kernel
theorem dX7_part_15 : decode cX7_part 15 = .ok (.iaload, 1) := by decide +kernel
theorem dX7_part_16 : decode cX7_part 16 = .ok (.istore_n 2, 1) := by decide +kernel
theorem dX7_part_17 : decode cX7_part 17 = .ok (.aload_n 0, 1) := by decide +kernel
theorem dX7_part_18 : decode cX7_part 18 = .ok (.iload_n 2, 1) := by decide +kernel
theorem dX7_part_19 : decode cX7_part 19 = .ok (.iconst (-1), 1) := by decide +kernel
theorem dX7_part_20 : decode cX7_part 20 = .ok (.if_icmp .eq 13, 3) := by decide +kernel
theorem dX7_part_23 : decode cX7_part 23 = .ok (.aload_n 0, 1) := by decide +kernel
theorem dX7_part_24 : decode cX7_part 24 = .ok (.getfield 69, 3) := by decide +kernel
theorem dX7_part_27 : decode cX7_part 27 = .ok (.iload_n 2, 1) := by decide +kernel
theorem dX7_part_28 : decode cX7_part 28 = .ok (.iaload, 1) := by decide +kernel
theorem dX7_part_29 : decode cX7_part 29 = .ok (.iconst (-1), 1) := by decide +kernel
theorem dX7_part_30 : decode cX7_part 30 = .ok (.if_icmp .eq 7, 3) := by decide +kernel
theorem dX7_part_33 : decode cX7_part 33 = .ok (.iconst 2, 1) := by decide +kernel
theorem dX7_part_34 : decode cX7_part 34 = .ok (.goto 4, 3) := by decide +kernel
theorem dX7_part_37 : decode cX7_part 37 = .ok (.iconst 0, 1) := by decide +kernel
theorem dX7_part_38 : decode cX7_part 38 = .ok (.putfield 87, 3) := by decide +kernel
theorem dX7_part_41 : decode cX7_part 41 = .ok (.aload_n 0, 1) := by decide +kernel
theorem dX7_part_42 : decode cX7_part 42 = .ok (.getfield 87, 3) := by decide +kernel
theorem dX7_part_45 : decode cX7_part 45 = .ok (.ifCond .le 5, 3) := by decide +kernel
theorem dX7_part_48 : decode cX7_part 48 = .ok (.iconst 0, 1) := by decide +kernel
theorem dX7_part_49 : decode cX7_part 49 = .ok (.ireturn, 1) := by decide +kernel
theorem dX7_part_50 : decode cX7_part 50 = .ok (.aload_n 0, 1) := by decide +kernel
theorem dX7_part_51 : decode cX7_part 51 = .ok (.getfield 44, 3) := by decide +kernel
theorem dX7_part_54 : decode cX7_part 54 = .ok (.iload_n 1, 1) := by decide +kernel
theorem dX7_part_55 : decode cX7_part 55 = .ok (.iconst (-1), 1) := by decide +kernel
theorem dX7_part_56 : decode cX7_part 56 = .ok (.iastore, 1) := by decide +kernel
theorem dX7_part_57 : decode cX7_part 57 = .ok (.aload_n 0, 1) := by decide +kernel
theorem dX7_part_58 : decode cX7_part 58 = .ok (.getfield 40, 3) := by decide +kernel
theorem dX7_part_61 : decode cX7_part 61 = .ok (.iload_n 1, 1) := by decide +kernel
theorem dX7_part_62 : decode cX7_part 62 = .ok (.bipush 114, 2) := by decide +kernel
theorem dX7_part_64 : decode cX7_part 64 = .ok (.castore, 1) := by decide +kernel
theorem dX7_part_65 : decode cX7_part 65 = .ok (.iload_n 2, 1) := by decide +kernel
theorem dX7_part_66 : decode cX7_part 66 = .ok (.ireturn, 1) := by decide +kernel
theorem dX7_lead_0 : decode cX7_lead 0 = .ok (.aload_n 0, 1) := by decide +kernel
theorem dX7_lead_1 : decode cX7_lead 1 = .ok (.iload_n 1, 1) := by decide +kernel
theorem dX7_lead_2 : decode cX7_lead 2 = .ok (.invokevirtual 126, 3) := by decide +kernel
theorem dX7_lead_5 : decode cX7_lead 5 = .ok (.ifCond .eq 7, 3) := by decide +kernel
theorem dX7_lead_8 : decode cX7_lead 8 = .ok (.iconst 0, 1) := by decide +kernel
theorem dX7_lead_9 : decode cX7_lead 9 = .ok (.goto 8, 3) := by decide +kernel
theorem dX7_lead_12 : decode cX7_lead 12 = .ok (.aload_n 0, 1) := by decide +kernel
theorem dX7_lead_13 : decode cX7_lead 13 = .ok (.iload_n 1, 1) := by decide +kernel
theorem dX7_lead_14 : decode cX7_lead 14 = .ok (.invokevirtual 108, 3) := by decide +kernel
theorem dX7_lead_17 : decode cX7_lead 17 = .ok (.ireturn, 1) := by decide +kernel
theorem dX7_countJoined_0 : decode cX7_countJoined 0 = .ok (.aload_n 0, 1) := by decide +kernel
theorem dX7_countJoined_1 : decode cX7_countJoined 1 = .ok (.iload_n 1, 1) := by decide +kernel
theorem dX7_countJoined_2 : decode cX7_countJoined 2 = .ok (.invokevirtual 126, 3) := by decide +kernel
theorem dX7_countJoined_5 : decode cX7_countJoined 5 = .ok (.ifCond .eq 7, 3) := by decide +kernel
theorem dX7_countJoined_8 : decode cX7_countJoined 8 = .ok (.iconst 0, 1) := by decide +kernel
theorem dX7_countJoined_9 : decode cX7_countJoined 9 = .ok (.goto 8, 3) := by decide +kernel
theorem dX7_countJoined_12 : decode cX7_countJoined 12 = .ok (.aload_n 0, 1) := by decide +kernel
theorem dX7_countJoined_13 : decode cX7_countJoined 13 = .ok (.iload_n 1, 1) := by decide +kernel
theorem dX7_countJoined_14 : decode cX7_countJoined 14 = .ok (.invokevirtual 142, 3) := by decide +kernel
theorem dX7_countJoined_17 : decode cX7_countJoined 17 = .ok (.ireturn, 1) := by decide +kernel
theorem dX7_setWeight_0 : decode cX7_setWeight 0 = .ok (.aload_n 0, 1) := by decide +kernel
theorem dX7_setWeight_1 : decode cX7_setWeight 1 = .ok (.iload_n 1, 1) := by decide +kernel
theorem dX7_setWeight_2 : decode cX7_setWeight 2 = .ok (.iconst 0, 1) := by decide +kernel
theorem dX7_setWeight_3 : decode cX7_setWeight 3 = .ok (.iconst 4, 1) := by decide +kernel
theorem dX7_setWeight_4 : decode cX7_setWeight 4 = .ok (.invokestatic 94, 3) := by decide +kernel
theorem dX7_setWeight_7 : decode cX7_setWeight 7 = .ok (.ifCond .eq 17, 3) := by decide +kernel
theorem dX7_setWeight_10 : decode cX7_setWeight 10 = .ok (.iload_n 2, 1) := by decide +kernel
theorem dX7_setWeight_11 : decode cX7_setWeight 11 = .ok (.iconst 1, 1) := by decide +kernel
theorem dX7_setWeight_12 : decode cX7_setWeight 12 = .ok (.bipush 9, 2) := by decide +kernel
theorem dX7_setWeight_14 : decode cX7_setWeight 14 = .ok (.invokestatic 94, 3) := by decide +kernel
theorem dX7_setWeight_17 : decode cX7_setWeight 17 = .ok (.ifCond .eq 7, 3) := by decide +kernel
theorem dX7_setWeight_20 : decode cX7_setWeight 20 = .ok (.iconst 0, 1) := by decide +kernel
theorem dX7_setWeight_21 : decode cX7_setWeight 21 = .ok (.goto 4, 3) := by decide +kernel
theorem dX7_setWeight_24 : decode cX7_setWeight 24 = .ok (.iconst 1, 1) := by decide +kernel
theorem dX7_setWeight_25 : decode cX7_setWeight 25 = .ok (.putfield 87, 3) := by decide +kernel
theorem dX7_setWeight_28 : decode cX7_setWeight 28 = .ok (.aload_n 0, 1) := by decide +kernel
theorem dX7_setWeight_29 : decode cX7_setWeight 29 = .ok (.getfield 87, 3) := by decide +kernel
theorem dX7_setWeight_32 : decode cX7_setWeight 32 = .ok (.ifCond .le 5, 3) := by decide +kernel
theorem dX7_setWeight_35 : decode cX7_setWeight 35 = .ok (.iconst 0, 1) := by decide +kernel
theorem dX7_setWeight_36 : decode cX7_setWeight 36 = .ok (.ireturn, 1) := by decide +kernel
theorem dX7_setWeight_37 : decode cX7_setWeight 37 = .ok (.aload_n 0, 1) := by decide +kernel
theorem dX7_setWeight_38 : decode cX7_setWeight 38 = .ok (.getfield 22, 3) := by decide +kernel
theorem dX7_setWeight_41 : decode cX7_setWeight 41 = .ok (.iload_n 1, 1) := by decide +kernel
theorem dX7_setWeight_42 : decode cX7_setWeight 42 = .ok (.iaload, 1) := by decide +kernel
theorem dX7_setWeight_43 : decode cX7_setWeight 43 = .ok (.istore_n 3, 1) := by decide +kernel
theorem dX7_setWeight_44 : decode cX7_setWeight 44 = .ok (.aload_n 0, 1) := by decide +kernel
theorem dX7_setWeight_45 : decode cX7_setWeight 45 = .ok (.getfield 22, 3) := by decide +kernel
theorem dX7_setWeight_48 : decode cX7_setWeight 48 = .ok (.iload_n 1, 1) := by decide +kernel
theorem dX7_setWeight_49 : decode cX7_setWeight 49 = .ok (.iload_n 2, 1) := by decide +kernel
theorem dX7_setWeight_50 : decode cX7_setWeight 50 = .ok (.iastore, 1) := by decide +kernel
theorem dX7_setWeight_51 : decode cX7_setWeight 51 = .ok (.iload_n 3, 1) := by decide +kernel
theorem dX7_setWeight_52 : decode cX7_setWeight 52 = .ok (.ireturn, 1) := by decide +kernel
theorem dX7_find_0 : decode cX7_find 0 = .ok (.aload_n 0, 1) := by decide +kernel
theorem dX7_find_1 : decode cX7_find 1 = .ok (.iload_n 1, 1) := by decide +kernel
theorem dX7_find_2 : decode cX7_find 2 = .ok (.invokevirtual 126, 3) := by decide +kernel
theorem dX7_find_5 : decode cX7_find 5 = .ok (.ifCond .eq 5, 3) := by decide +kernel
theorem dX7_find_8 : decode cX7_find 8 = .ok (.iconst 0, 1) := by decide +kernel
theorem dX7_find_9 : decode cX7_find 9 = .ok (.ireturn, 1) := by decide +kernel
theorem dX7_find_10 : decode cX7_find 10 = .ok (.aload_n 0, 1) := by decide +kernel
theorem dX7_find_11 : decode cX7_find 11 = .ok (.iload_n 2, 1) := by decide +kernel
theorem dX7_find_12 : decode cX7_find 12 = .ok (.iconst 0, 1) := by decide +kernel
theorem dX7_find_13 : decode cX7_find 13 = .ok (.bipush 31, 2) := by decide +kernel
theorem dX7_find_15 : decode cX7_find 15 = .ok (.invokestatic 94, 3) := by decide +kernel
theorem dX7_find_18 : decode cX7_find 18 = .ok (.ifCond .ne 7, 3) := by decide +kernel
theorem dX7_find_21 : decode cX7_find 21 = .ok (.iconst 2, 1) := by decide +kernel
theorem dX7_find_22 : decode cX7_find 22 = .ok (.goto 27, 3) := by decide +kernel
theorem dX7_find_25 : decode cX7_find 25 = .ok (.aload_n 0, 1) := by decide +kernel
theorem dX7_find_26 : decode cX7_find 26 = .ok (.iload_n 1, 1) := by decide +kernel
theorem dX7_find_27 : decode cX7_find 27 = .ok (.invokevirtual 105, 3) := by decide +kernel
theorem dX7_find_30 : decode cX7_find 30 = .ok (.ifCond .ne 14, 3) := by decide +kernel
theorem dX7_find_33 : decode cX7_find 33 = .ok (.aload_n 0, 1) := by decide +kernel
theorem dX7_find_34 : decode cX7_find 34 = .ok (.getfield 40, 3) := by decide +kernel
theorem dX7_find_37 : decode cX7_find 37 = .ok (.iload_n 1, 1) := by decide +kernel
theorem dX7_find_38 : decode cX7_find 38 = .ok (.caload, 1) := by decide +kernel
theorem dX7_find_39 : decode cX7_find 39 = .ok (.bipush 115, 2) := by decide +kernel
theorem dX7_find_41 : decode cX7_find 41 = .ok (.if_icmp .eq 7, 3) := by decide +kernel
theorem dX7_find_44 : decode cX7_find 44 = .ok (.iconst 3, 1) := by decide +kernel
theorem dX7_find_45 : decode cX7_find 45 = .ok (.goto 4, 3) := by decide +kernel
theorem dX7_find_48 : decode cX7_find 48 = .ok (.iconst 0, 1) := by decide +kernel
theorem dX7_find_49 : decode cX7_find 49 = .ok (.putfield 87, 3) := by decide +kernel
theorem dX7_find_52 : decode cX7_find 52 = .ok (.aload_n 0, 1) := by decide +kernel
theorem dX7_find_53 : decode cX7_find 53 = .ok (.getfield 87, 3) := by decide +kernel
theorem dX7_find_56 : decode cX7_find 56 = .ok (.ifCond .le 5, 3) := by decide +kernel
theorem dX7_find_59 : decode cX7_find 59 = .ok (.iconst 0, 1) := by decide +kernel
theorem dX7_find_60 : decode cX7_find 60 = .ok (.ireturn, 1) := by decide +kernel
theorem dX7_find_61 : decode cX7_find 61 = .ok (.aload_n 0, 1) := by decide +kernel
theorem dX7_find_62 : decode cX7_find 62 = .ok (.getfield 66, 3) := by decide +kernel
theorem dX7_find_65 : decode cX7_find 65 = .ok (.iload_n 1, 1) := by decide +kernel
theorem dX7_find_66 : decode cX7_find 66 = .ok (.baload, 1) := by decide +kernel
theorem dX7_find_67 : decode cX7_find 67 = .ok (.ifCond .eq 9, 3) := by decide +kernel
theorem dX7_find_70 : decode cX7_find 70 = .ok (.iload_n 2, 1) := by decide +kernel
theorem dX7_find_71 : decode cX7_find 71 = .ok (.iconst 1, 1) := by decide +kernel
theorem dX7_find_72 : decode cX7_find 72 = .ok (.ior, 1) := by decide +kernel
theorem dX7_find_73 : decode cX7_find 73 = .ok (.goto 4, 3) := by decide +kernel
theorem dX7_find_76 : decode cX7_find 76 = .ok (.iload_n 2, 1) := by decide +kernel
theorem dX7_find_77 : decode cX7_find 77 = .ok (.istore_n 3, 1) := by decide +kernel
theorem dX7_find_78 : decode cX7_find 78 = .ok (.aload_n 0, 1) := by decide +kernel
theorem dX7_find_79 : decode cX7_find 79 = .ok (.getfield 69, 3) := by decide +kernel
theorem dX7_find_82 : decode cX7_find 82 = .ok (.iload_n 1, 1) := by decide +kernel
theorem dX7_find_83 : decode cX7_find 83 = .ok (.iload_n 3, 1) := by decide +kernel
theorem dX7_find_84 : decode cX7_find 84 = .ok (.iastore, 1) := by decide +kernel
theorem dX7_find_85 : decode cX7_find 85 = .ok (.iload_n 3, 1) := by decide +kernel
theorem dX7_find_86 : decode cX7_find 86 = .ok (.ifCond .ne 12, 3) := by decide +kernel
theorem dX7_find_89 : decode cX7_find 89 = .ok (.aload_n 0, 1) := by decide +kernel
theorem dX7_find_90 : decode cX7_find 90 = .ok (.iload_n 1, 1) := by decide +kernel
theorem dX7_find_91 : decode cX7_find 91 = .ok (.bipush 117, 2) := by decide +kernel
theorem dX7_find_93 : decode cX7_find 93 = .ok (.invokevirtual 145, 3) := by decide +kernel
theorem dX7_find_96 : decode cX7_find 96 = .ok (.iconst 0, 1) := by decide +kernel
theorem dX7_find_97 : decode cX7_find 97 = .ok (.ireturn, 1) := by decide +kernel
theorem dX7_find_98 : decode cX7_find 98 = .ok (.aload_n 0, 1) := by decide +kernel
theorem dX7_find_99 : decode cX7_find 99 = .ok (.iload_n 1, 1) := by decide +kernel
theorem dX7_find_100 : decode cX7_find 100 = .ok (.invokevirtual 142, 3) := by decide +kernel
theorem dX7_find_103 : decode cX7_find 103 = .ok (.istore 4, 2) := by decide +kernel
theorem dX7_find_105 : decode cX7_find 105 = .ok (.iload 4, 2) := by decide +kernel
theorem dX7_find_107 : decode cX7_find 107 = .ok (.iconst 5, 1) := by decide +kernel
theorem dX7_find_108 : decode cX7_find 108 = .ok (.if_icmp .ge 8, 3) := by decide +kernel
theorem dX7_find_111 : decode cX7_find 111 = .ok (.iload 4, 2) := by decide +kernel
theorem dX7_find_113 : decode cX7_find 113 = .ok (.goto 4, 3) := by decide +kernel
theorem dX7_find_116 : decode cX7_find 116 = .ok (.iconst 5, 1) := by decide +kernel
theorem dX7_find_117 : decode cX7_find 117 = .ok (.istore 5, 2) := by decide +kernel
theorem dX7_find_119 : decode cX7_find 119 = .ok (.iconst 0, 1) := by decide +kernel
theorem dX7_find_120 : decode cX7_find 120 = .ok (.istore 6, 2) := by decide +kernel
theorem dX7_find_122 : decode cX7_find 122 = .ok (.iload 6, 2) := by decide +kernel
theorem dX7_find_124 : decode cX7_find 124 = .ok (.iconst 5, 1) := by decide +kernel
theorem dX7_find_125 : decode cX7_find 125 = .ok (.if_icmp .ge 35, 3) := by decide +kernel
theorem dX7_find_128 : decode cX7_find 128 = .ok (.iload 5, 2) := by decide +kernel
theorem dX7_find_130 : decode cX7_find 130 = .ok (.iload_n 3, 1) := by decide +kernel
theorem dX7_find_131 : decode cX7_find 131 = .ok (.iload 6, 2) := by decide +kernel
theorem dX7_find_133 : decode cX7_find 133 = .ok (.ishr, 1) := by decide +kernel
theorem dX7_find_134 : decode cX7_find 134 = .ok (.iconst 1, 1) := by decide +kernel
theorem dX7_find_135 : decode cX7_find 135 = .ok (.iand, 1) := by decide +kernel
theorem dX7_find_136 : decode cX7_find 136 = .ok (.iconst 1, 1) := by decide +kernel
theorem dX7_find_137 : decode cX7_find 137 = .ok (.if_icmp .ne 13, 3) := by decide +kernel
theorem dX7_find_140 : decode cX7_find 140 = .ok (.aload_n 0, 1) := by decide +kernel
theorem dX7_find_141 : decode cX7_find 141 = .ok (.getfield 22, 3) := by decide +kernel
theorem dX7_find_144 : decode cX7_find 144 = .ok (.iload 6, 2) := by decide +kernel
theorem dX7_find_146 : decode cX7_find 146 = .ok (.iaload, 1) := by decide +kernel
theorem dX7_find_147 : decode cX7_find 147 = .ok (.goto 4, 3) := by decide +kernel
theorem dX7_find_150 : decode cX7_find 150 = .ok (.iconst 0, 1) := by decide +kernel
theorem dX7_find_151 : decode cX7_find 151 = .ok (.iadd, 1) := by decide +kernel
theorem dX7_find_152 : decode cX7_find 152 = .ok (.istore 5, 2) := by decide +kernel
theorem dX7_find_154 : decode cX7_find 154 = .ok (.iinc 6 1, 3) := by decide +kernel
theorem dX7_find_157 : decode cX7_find 157 = .ok (.goto (-35), 3) := by decide +kernel
theorem dX7_find_160 : decode cX7_find 160 = .ok (.aload_n 0, 1) := by decide +kernel
theorem dX7_find_161 : decode cX7_find 161 = .ok (.getfield 40, 3) := by decide +kernel
theorem dX7_find_164 : decode cX7_find 164 = .ok (.iload_n 1, 1) := by decide +kernel
theorem dX7_find_165 : decode cX7_find 165 = .ok (.bipush 100, 2) := by decide +kernel
theorem dX7_find_167 : decode cX7_find 167 = .ok (.castore, 1) := by decide +kernel
theorem dX7_find_168 : decode cX7_find 168 = .ok (.aload_n 0, 1) := by decide +kernel
theorem dX7_find_169 : decode cX7_find 169 = .ok (.getfield 72, 3) := by decide +kernel
theorem dX7_find_172 : decode cX7_find 172 = .ok (.iload_n 1, 1) := by decide +kernel
theorem dX7_find_173 : decode cX7_find 173 = .ok (.iload 5, 2) := by decide +kernel
theorem dX7_find_175 : decode cX7_find 175 = .ok (.iconst 3, 1) := by decide +kernel
theorem dX7_find_176 : decode cX7_find 176 = .ok (.if_icmp .gt 7, 3) := by decide +kernel
theorem dX7_find_179 : decode cX7_find 179 = .ok (.iconst 1, 1) := by decide +kernel
theorem dX7_find_180 : decode cX7_find 180 = .ok (.goto 26, 3) := by decide +kernel
theorem dX7_find_183 : decode cX7_find 183 = .ok (.iload 5, 2) := by decide +kernel
theorem dX7_find_185 : decode cX7_find 185 = .ok (.bipush 9, 2) := by decide +kernel
theorem dX7_find_187 : decode cX7_find 187 = .ok (.if_icmp .gt 7, 3) := by decide +kernel
theorem dX7_find_190 : decode cX7_find 190 = .ok (.iconst 2, 1) := by decide +kernel
theorem dX7_find_191 : decode cX7_find 191 = .ok (.goto 15, 3) := by decide +kernel
theorem dX7_find_194 : decode cX7_find 194 = .ok (.iload 5, 2) := by decide +kernel
theorem dX7_find_196 : decode cX7_find 196 = .ok (.bipush 15, 2) := by decide +kernel
theorem dX7_find_198 : decode cX7_find 198 = .ok (.if_icmp .gt 7, 3) := by decide +kernel
theorem dX7_find_201 : decode cX7_find 201 = .ok (.iconst 3, 1) := by decide +kernel
theorem dX7_find_202 : decode cX7_find 202 = .ok (.goto 4, 3) := by decide +kernel
theorem dX7_find_205 : decode cX7_find 205 = .ok (.iconst 4, 1) := by decide +kernel
theorem dX7_find_206 : decode cX7_find 206 = .ok (.iastore, 1) := by decide +kernel
theorem dX7_find_207 : decode cX7_find 207 = .ok (.aload_n 0, 1) := by decide +kernel
theorem dX7_find_208 : decode cX7_find 208 = .ok (.getfield 57, 3) := by decide +kernel
theorem dX7_find_211 : decode cX7_find 211 = .ok (.iload_n 1, 1) := by decide +kernel
theorem dX7_find_212 : decode cX7_find 212 = .ok (.aload_n 0, 1) := by decide +kernel
theorem dX7_find_213 : decode cX7_find 213 = .ok (.getfield 116, 3) := by decide +kernel
theorem dX7_find_216 : decode cX7_find 216 = .ok (.bipush 30, 2) := by decide +kernel
theorem dX7_find_218 : decode cX7_find 218 = .ok (.aload_n 0, 1) := by decide +kernel
theorem dX7_find_219 : decode cX7_find 219 = .ok (.getfield 72, 3) := by decide +kernel
theorem dX7_find_222 : decode cX7_find 222 = .ok (.iload_n 1, 1) := by decide +kernel
theorem dX7_find_223 : decode cX7_find 223 = .ok (.iaload, 1) := by decide +kernel
theorem dX7_find_224 : decode cX7_find 224 = .ok (.imul, 1) := by decide +kernel
theorem dX7_find_225 : decode cX7_find 225 = .ok (.iadd, 1) := by decide +kernel
theorem dX7_find_226 : decode cX7_find 226 = .ok (.iastore, 1) := by decide +kernel
theorem dX7_find_227 : decode cX7_find 227 = .ok (.aload_n 0, 1) := by decide +kernel
theorem dX7_find_228 : decode cX7_find 228 = .ok (.getfield 16, 3) := by decide +kernel
theorem dX7_find_231 : decode cX7_find 231 = .ok (.aload_n 0, 1) := by decide +kernel
theorem dX7_find_232 : decode cX7_find 232 = .ok (.getfield 25, 3) := by decide +kernel
theorem dX7_find_235 : decode cX7_find 235 = .ok (.iload_n 1, 1) := by decide +kernel
theorem dX7_find_236 : decode cX7_find 236 = .ok (.iaload, 1) := by decide +kernel
theorem dX7_find_237 : decode cX7_find 237 = .ok (.dup2, 1) := by decide +kernel
theorem dX7_find_238 : decode cX7_find 238 = .ok (.iaload, 1) := by decide +kernel
theorem dX7_find_239 : decode cX7_find 239 = .ok (.iconst 1, 1) := by decide +kernel
theorem dX7_find_240 : decode cX7_find 240 = .ok (.iload 4, 2) := by decide +kernel
theorem dX7_find_242 : decode cX7_find 242 = .ok (.iadd, 1) := by decide +kernel
theorem dX7_find_243 : decode cX7_find 243 = .ok (.iadd, 1) := by decide +kernel
theorem dX7_find_244 : decode cX7_find 244 = .ok (.iastore, 1) := by decide +kernel
theorem dX7_find_245 : decode cX7_find 245 = .ok (.aload_n 0, 1) := by decide +kernel
theorem dX7_find_246 : decode cX7_find 246 = .ok (.getfield 72, 3) := by decide +kernel
theorem dX7_find_249 : decode cX7_find 249 = .ok (.iload_n 1, 1) := by decide +kernel
theorem dX7_find_250 : decode cX7_find 250 = .ok (.iaload, 1) := by decide +kernel
theorem dX7_find_251 : decode cX7_find 251 = .ok (.ireturn, 1) := by decide +kernel
theorem dX7_heads_0 : decode cX7_heads 0 = .ok (.aload_n 0, 1) := by decide +kernel
theorem dX7_heads_1 : decode cX7_heads 1 = .ok (.iload_n 1, 1) := by decide +kernel
theorem dX7_heads_2 : decode cX7_heads 2 = .ok (.invokevirtual 126, 3) := by decide +kernel
theorem dX7_heads_5 : decode cX7_heads 5 = .ok (.ifCond .eq 5, 3) := by decide +kernel
theorem dX7_heads_8 : decode cX7_heads 8 = .ok (.iconst 0, 1) := by decide +kernel
theorem dX7_heads_9 : decode cX7_heads 9 = .ok (.ireturn, 1) := by decide +kernel
theorem dX7_heads_10 : decode cX7_heads 10 = .ok (.aload_n 0, 1) := by decide +kernel
theorem dX7_heads_11 : decode cX7_heads 11 = .ok (.aload_n 0, 1) := by decide +kernel
theorem dX7_heads_12 : decode cX7_heads 12 = .ok (.getfield 69, 3) := by decide +kernel
theorem dX7_heads_15 : decode cX7_heads 15 = .ok (.aload_n 0, 1) := by decide +kernel
theorem dX7_heads_16 : decode cX7_heads 16 = .ok (.iload_n 1, 1) := by decide +kernel
theorem dX7_heads_17 : decode cX7_heads 17 = .ok (.invokevirtual 108, 3) := by decide +kernel
theorem dX7_heads_20 : decode cX7_heads 20 = .ok (.iaload, 1) := by decide +kernel
theorem dX7_heads_21 : decode cX7_heads 21 = .ok (.iconst (-1), 1) := by decide +kernel
theorem dX7_heads_22 : decode cX7_heads 22 = .ok (.if_icmp .ne 7, 3) := by decide +kernel
theorem dX7_heads_25 : decode cX7_heads 25 = .ok (.iconst 2, 1) := by decide +kernel
theorem dX7_heads_26 : decode cX7_heads 26 = .ok (.goto 4, 3) := by decide +kernel
theorem dX7_heads_29 : decode cX7_heads 29 = .ok (.iconst 0, 1) := by decide +kernel
theorem dX7_heads_30 : decode cX7_heads 30 = .ok (.putfield 87, 3) := by decide +kernel
theorem dX7_heads_33 : decode cX7_heads 33 = .ok (.aload_n 0, 1) := by decide +kernel
theorem dX7_heads_34 : decode cX7_heads 34 = .ok (.getfield 87, 3) := by decide +kernel
theorem dX7_heads_37 : decode cX7_heads 37 = .ok (.ifCond .le 7, 3) := by decide +kernel
theorem dX7_heads_40 : decode cX7_heads 40 = .ok (.iconst 0, 1) := by decide +kernel
theorem dX7_heads_41 : decode cX7_heads 41 = .ok (.goto 13, 3) := by decide +kernel
theorem dX7_heads_44 : decode cX7_heads 44 = .ok (.aload_n 0, 1) := by decide +kernel
theorem dX7_heads_45 : decode cX7_heads 45 = .ok (.getfield 69, 3) := by decide +kernel
theorem dX7_heads_48 : decode cX7_heads 48 = .ok (.aload_n 0, 1) := by decide +kernel
theorem dX7_heads_49 : decode cX7_heads 49 = .ok (.iload_n 1, 1) := by decide +kernel
theorem dX7_heads_50 : decode cX7_heads 50 = .ok (.invokevirtual 108, 3) := by decide +kernel
theorem dX7_heads_53 : decode cX7_heads 53 = .ok (.iaload, 1) := by decide +kernel
theorem dX7_heads_54 : decode cX7_heads 54 = .ok (.ireturn, 1) := by decide +kernel
theorem dX7_remedy_0 : decode cX7_remedy 0 = .ok (.aload_n 0, 1) := by decide +kernel
theorem dX7_remedy_1 : decode cX7_remedy 1 = .ok (.iload_n 1, 1) := by decide +kernel
theorem dX7_remedy_2 : decode cX7_remedy 2 = .ok (.invokevirtual 126, 3) := by decide +kernel
theorem dX7_remedy_5 : decode cX7_remedy 5 = .ok (.ifCond .eq 5, 3) := by decide +kernel
theorem dX7_remedy_8 : decode cX7_remedy 8 = .ok (.iconst 0, 1) := by decide +kernel
theorem dX7_remedy_9 : decode cX7_remedy 9 = .ok (.ireturn, 1) := by decide +kernel
theorem dX7_remedy_10 : decode cX7_remedy 10 = .ok (.aload_n 0, 1) := by decide +kernel
theorem dX7_remedy_11 : decode cX7_remedy 11 = .ok (.aload_n 0, 1) := by decide +kernel
theorem dX7_remedy_12 : decode cX7_remedy 12 = .ok (.getfield 72, 3) := by decide +kernel
theorem dX7_remedy_15 : decode cX7_remedy 15 = .ok (.aload_n 0, 1) := by decide +kernel
theorem dX7_remedy_16 : decode cX7_remedy 16 = .ok (.iload_n 1, 1) := by decide +kernel
theorem dX7_remedy_17 : decode cX7_remedy 17 = .ok (.invokevirtual 108, 3) := by decide +kernel
theorem dX7_remedy_20 : decode cX7_remedy 20 = .ok (.iaload, 1) := by decide +kernel
theorem dX7_remedy_21 : decode cX7_remedy 21 = .ok (.ifCond .ne 7, 3) := by decide +kernel
theorem dX7_remedy_24 : decode cX7_remedy 24 = .ok (.iconst 2, 1) := by decide +kernel
theorem dX7_remedy_25 : decode cX7_remedy 25 = .ok (.goto 4, 3) := by decide +kernel
theorem dX7_remedy_28 : decode cX7_remedy 28 = .ok (.iconst 0, 1) := by decide +kernel
theorem dX7_remedy_29 : decode cX7_remedy 29 = .ok (.putfield 87, 3) := by decide +kernel
theorem dX7_remedy_32 : decode cX7_remedy 32 = .ok (.aload_n 0, 1) := by decide +kernel
theorem dX7_remedy_33 : decode cX7_remedy 33 = .ok (.getfield 87, 3) := by decide +kernel
theorem dX7_remedy_36 : decode cX7_remedy 36 = .ok (.ifCond .le 7, 3) := by decide +kernel
theorem dX7_remedy_39 : decode cX7_remedy 39 = .ok (.iconst 0, 1) := by decide +kernel
theorem dX7_remedy_40 : decode cX7_remedy 40 = .ok (.goto 13, 3) := by decide +kernel
theorem dX7_remedy_43 : decode cX7_remedy 43 = .ok (.aload_n 0, 1) := by decide +kernel
theorem dX7_remedy_44 : decode cX7_remedy 44 = .ok (.getfield 72, 3) := by decide +kernel
theorem dX7_remedy_47 : decode cX7_remedy 47 = .ok (.aload_n 0, 1) := by decide +kernel
theorem dX7_remedy_48 : decode cX7_remedy 48 = .ok (.iload_n 1, 1) := by decide +kernel
theorem dX7_remedy_49 : decode cX7_remedy 49 = .ok (.invokevirtual 108, 3) := by decide +kernel
theorem dX7_remedy_52 : decode cX7_remedy 52 = .ok (.iaload, 1) := by decide +kernel
theorem dX7_remedy_53 : decode cX7_remedy 53 = .ok (.ireturn, 1) := by decide +kernel
theorem dX7_accept_0 : decode cX7_accept 0 = .ok (.aload_n 0, 1) := by decide +kernel
theorem dX7_accept_1 : decode cX7_accept 1 = .ok (.iload_n 1, 1) := by decide +kernel
theorem dX7_accept_2 : decode cX7_accept 2 = .ok (.bipush 100, 2) := by decide +kernel
theorem dX7_accept_4 : decode cX7_accept 4 = .ok (.invokevirtual 135, 3) := by decide +kernel
theorem dX7_accept_7 : decode cX7_accept 7 = .ok (.ifCond .eq 5, 3) := by decide +kernel
theorem dX7_accept_10 : decode cX7_accept 10 = .ok (.iconst 0, 1) := by decide +kernel
theorem dX7_accept_11 : decode cX7_accept 11 = .ok (.ireturn, 1) := by decide +kernel
theorem dX7_accept_12 : decode cX7_accept 12 = .ok (.aload_n 0, 1) := by decide +kernel
theorem dX7_accept_13 : decode cX7_accept 13 = .ok (.aload_n 0, 1) := by decide +kernel
theorem dX7_accept_14 : decode cX7_accept 14 = .ok (.getfield 75, 3) := by decide +kernel
theorem dX7_accept_17 : decode cX7_accept 17 = .ok (.iload_n 1, 1) := by decide +kernel
theorem dX7_accept_18 : decode cX7_accept 18 = .ok (.iaload, 1) := by decide +kernel
theorem dX7_accept_19 : decode cX7_accept 19 = .ok (.iconst (-1), 1) := by decide +kernel
theorem dX7_accept_20 : decode cX7_accept 20 = .ok (.if_icmp .eq 7, 3) := by decide +kernel
theorem dX7_accept_23 : decode cX7_accept 23 = .ok (.iconst 2, 1) := by decide +kernel
theorem dX7_accept_24 : decode cX7_accept 24 = .ok (.goto 4, 3) := by decide +kernel
theorem dX7_accept_27 : decode cX7_accept 27 = .ok (.iconst 0, 1) := by decide +kernel
theorem dX7_accept_28 : decode cX7_accept 28 = .ok (.putfield 87, 3) := by decide +kernel
theorem dX7_accept_31 : decode cX7_accept 31 = .ok (.aload_n 0, 1) := by decide +kernel
theorem dX7_accept_32 : decode cX7_accept 32 = .ok (.getfield 87, 3) := by decide +kernel
theorem dX7_accept_35 : decode cX7_accept 35 = .ok (.ifCond .le 5, 3) := by decide +kernel
theorem dX7_accept_38 : decode cX7_accept 38 = .ok (.iconst 0, 1) := by decide +kernel
theorem dX7_accept_39 : decode cX7_accept 39 = .ok (.ireturn, 1) := by decide +kernel
theorem dX7_accept_40 : decode cX7_accept 40 = .ok (.aload_n 0, 1) := by decide +kernel
theorem dX7_accept_41 : decode cX7_accept 41 = .ok (.getfield 75, 3) := by decide +kernel
theorem dX7_accept_44 : decode cX7_accept 44 = .ok (.iload_n 1, 1) := by decide +kernel
theorem dX7_accept_45 : decode cX7_accept 45 = .ok (.iload_n 2, 1) := by decide +kernel
theorem dX7_accept_46 : decode cX7_accept 46 = .ok (.ifCond .eq 7, 3) := by decide +kernel
theorem dX7_accept_49 : decode cX7_accept 49 = .ok (.iconst 1, 1) := by decide +kernel
theorem dX7_accept_50 : decode cX7_accept 50 = .ok (.goto 4, 3) := by decide +kernel
theorem dX7_accept_53 : decode cX7_accept 53 = .ok (.iconst 0, 1) := by decide +kernel
theorem dX7_accept_54 : decode cX7_accept 54 = .ok (.iastore, 1) := by decide +kernel
theorem dX7_accept_55 : decode cX7_accept 55 = .ok (.aload_n 0, 1) := by decide +kernel
theorem dX7_accept_56 : decode cX7_accept 56 = .ok (.getfield 57, 3) := by decide +kernel
theorem dX7_accept_59 : decode cX7_accept 59 = .ok (.iload_n 1, 1) := by decide +kernel
theorem dX7_accept_60 : decode cX7_accept 60 = .ok (.iaload, 1) := by decide +kernel
theorem dX7_accept_61 : decode cX7_accept 61 = .ok (.ireturn, 1) := by decide +kernel
theorem dX7_isAccepted_0 : decode cX7_isAccepted 0 = .ok (.aload_n 0, 1) := by decide +kernel
theorem dX7_isAccepted_1 : decode cX7_isAccepted 1 = .ok (.iload_n 1, 1) := by decide +kernel
theorem dX7_isAccepted_2 : decode cX7_isAccepted 2 = .ok (.invokevirtual 126, 3) := by decide +kernel
theorem dX7_isAccepted_5 : decode cX7_isAccepted 5 = .ok (.ifCond .eq 5, 3) := by decide +kernel
theorem dX7_isAccepted_8 : decode cX7_isAccepted 8 = .ok (.iconst 0, 1) := by decide +kernel
theorem dX7_isAccepted_9 : decode cX7_isAccepted 9 = .ok (.ireturn, 1) := by decide +kernel
theorem dX7_isAccepted_10 : decode cX7_isAccepted 10 = .ok (.aload_n 0, 1) := by decide +kernel
theorem dX7_isAccepted_11 : decode cX7_isAccepted 11 = .ok (.getfield 75, 3) := by decide +kernel
theorem dX7_isAccepted_14 : decode cX7_isAccepted 14 = .ok (.aload_n 0, 1) := by decide +kernel
theorem dX7_isAccepted_15 : decode cX7_isAccepted 15 = .ok (.iload_n 1, 1) := by decide +kernel
theorem dX7_isAccepted_16 : decode cX7_isAccepted 16 = .ok (.invokevirtual 108, 3) := by decide +kernel
theorem dX7_isAccepted_19 : decode cX7_isAccepted 19 = .ok (.iaload, 1) := by decide +kernel
theorem dX7_isAccepted_20 : decode cX7_isAccepted 20 = .ok (.istore_n 2, 1) := by decide +kernel
theorem dX7_isAccepted_21 : decode cX7_isAccepted 21 = .ok (.aload_n 0, 1) := by decide +kernel
theorem dX7_isAccepted_22 : decode cX7_isAccepted 22 = .ok (.iload_n 2, 1) := by decide +kernel
theorem dX7_isAccepted_23 : decode cX7_isAccepted 23 = .ok (.iconst (-1), 1) := by decide +kernel
theorem dX7_isAccepted_24 : decode cX7_isAccepted 24 = .ok (.if_icmp .ne 7, 3) := by decide +kernel
theorem dX7_isAccepted_27 : decode cX7_isAccepted 27 = .ok (.iconst 2, 1) := by decide +kernel
theorem dX7_isAccepted_28 : decode cX7_isAccepted 28 = .ok (.goto 4, 3) := by decide +kernel
theorem dX7_isAccepted_31 : decode cX7_isAccepted 31 = .ok (.iconst 0, 1) := by decide +kernel
theorem dX7_isAccepted_32 : decode cX7_isAccepted 32 = .ok (.putfield 87, 3) := by decide +kernel
theorem dX7_isAccepted_35 : decode cX7_isAccepted 35 = .ok (.iload_n 2, 1) := by decide +kernel
theorem dX7_isAccepted_36 : decode cX7_isAccepted 36 = .ok (.iconst 1, 1) := by decide +kernel
theorem dX7_isAccepted_37 : decode cX7_isAccepted 37 = .ok (.if_icmp .ne 7, 3) := by decide +kernel
theorem dX7_isAccepted_40 : decode cX7_isAccepted 40 = .ok (.iconst 1, 1) := by decide +kernel
theorem dX7_isAccepted_41 : decode cX7_isAccepted 41 = .ok (.goto 4, 3) := by decide +kernel
theorem dX7_isAccepted_44 : decode cX7_isAccepted 44 = .ok (.iconst 0, 1) := by decide +kernel
theorem dX7_isAccepted_45 : decode cX7_isAccepted 45 = .ok (.ireturn, 1) := by decide +kernel
theorem dX7_heed_0 : decode cX7_heed 0 = .ok (.aload_n 0, 1) := by decide +kernel
theorem dX7_heed_1 : decode cX7_heed 1 = .ok (.iload_n 1, 1) := by decide +kernel
theorem dX7_heed_2 : decode cX7_heed 2 = .ok (.bipush 100, 2) := by decide +kernel
theorem dX7_heed_4 : decode cX7_heed 4 = .ok (.invokevirtual 135, 3) := by decide +kernel
theorem dX7_heed_7 : decode cX7_heed 7 = .ok (.ifCond .eq 5, 3) := by decide +kernel
theorem dX7_heed_10 : decode cX7_heed 10 = .ok (.iconst 0, 1) := by decide +kernel
theorem dX7_heed_11 : decode cX7_heed 11 = .ok (.ireturn, 1) := by decide +kernel
theorem dX7_heed_12 : decode cX7_heed 12 = .ok (.aload_n 0, 1) := by decide +kernel
theorem dX7_heed_13 : decode cX7_heed 13 = .ok (.aload_n 0, 1) := by decide +kernel
theorem dX7_heed_14 : decode cX7_heed 14 = .ok (.getfield 116, 3) := by decide +kernel
theorem dX7_heed_17 : decode cX7_heed 17 = .ok (.aload_n 0, 1) := by decide +kernel
theorem dX7_heed_18 : decode cX7_heed 18 = .ok (.getfield 57, 3) := by decide +kernel
theorem dX7_heed_21 : decode cX7_heed 21 = .ok (.iload_n 1, 1) := by decide +kernel
theorem dX7_heed_22 : decode cX7_heed 22 = .ok (.iaload, 1) := by decide +kernel
theorem dX7_heed_23 : decode cX7_heed 23 = .ok (.if_icmp .le 7, 3) := by decide +kernel
theorem dX7_heed_26 : decode cX7_heed 26 = .ok (.iconst 2, 1) := by decide +kernel
theorem dX7_heed_27 : decode cX7_heed 27 = .ok (.goto 4, 3) := by decide +kernel
theorem dX7_heed_30 : decode cX7_heed 30 = .ok (.iconst 0, 1) := by decide +kernel
theorem dX7_heed_31 : decode cX7_heed 31 = .ok (.putfield 87, 3) := by decide +kernel
theorem dX7_heed_34 : decode cX7_heed 34 = .ok (.aload_n 0, 1) := by decide +kernel
theorem dX7_heed_35 : decode cX7_heed 35 = .ok (.getfield 87, 3) := by decide +kernel
theorem dX7_heed_38 : decode cX7_heed 38 = .ok (.ifCond .le 5, 3) := by decide +kernel
theorem dX7_heed_41 : decode cX7_heed 41 = .ok (.iconst 0, 1) := by decide +kernel
theorem dX7_heed_42 : decode cX7_heed 42 = .ok (.ireturn, 1) := by decide +kernel
theorem dX7_heed_43 : decode cX7_heed 43 = .ok (.aload_n 0, 1) := by decide +kernel
theorem dX7_heed_44 : decode cX7_heed 44 = .ok (.getfield 19, 3) := by decide +kernel
theorem dX7_heed_47 : decode cX7_heed 47 = .ok (.aload_n 0, 1) := by decide +kernel
theorem dX7_heed_48 : decode cX7_heed 48 = .ok (.getfield 25, 3) := by decide +kernel
theorem dX7_heed_51 : decode cX7_heed 51 = .ok (.iload_n 1, 1) := by decide +kernel
theorem dX7_heed_52 : decode cX7_heed 52 = .ok (.iaload, 1) := by decide +kernel
theorem dX7_heed_53 : decode cX7_heed 53 = .ok (.dup2, 1) := by decide +kernel
theorem dX7_heed_54 : decode cX7_heed 54 = .ok (.iaload, 1) := by decide +kernel
theorem dX7_heed_55 : decode cX7_heed 55 = .ok (.iconst 1, 1) := by decide +kernel
theorem dX7_heed_56 : decode cX7_heed 56 = .ok (.aload_n 0, 1) := by decide +kernel
theorem dX7_heed_57 : decode cX7_heed 57 = .ok (.iload_n 1, 1) := by decide +kernel
theorem dX7_heed_58 : decode cX7_heed 58 = .ok (.invokevirtual 142, 3) := by decide +kernel
theorem dX7_heed_61 : decode cX7_heed 61 = .ok (.iadd, 1) := by decide +kernel
theorem dX7_heed_62 : decode cX7_heed 62 = .ok (.iadd, 1) := by decide +kernel
theorem dX7_heed_63 : decode cX7_heed 63 = .ok (.iastore, 1) := by decide +kernel
theorem dX7_heed_64 : decode cX7_heed 64 = .ok (.aload_n 0, 1) := by decide +kernel
theorem dX7_heed_65 : decode cX7_heed 65 = .ok (.iload_n 1, 1) := by decide +kernel
theorem dX7_heed_66 : decode cX7_heed 66 = .ok (.bipush 104, 2) := by decide +kernel
theorem dX7_heed_68 : decode cX7_heed 68 = .ok (.invokevirtual 145, 3) := by decide +kernel
theorem dX7_heed_71 : decode cX7_heed 71 = .ok (.aload_n 0, 1) := by decide +kernel
theorem dX7_heed_72 : decode cX7_heed 72 = .ok (.getfield 57, 3) := by decide +kernel
theorem dX7_heed_75 : decode cX7_heed 75 = .ok (.iload_n 1, 1) := by decide +kernel
theorem dX7_heed_76 : decode cX7_heed 76 = .ok (.iaload, 1) := by decide +kernel
theorem dX7_heed_77 : decode cX7_heed 77 = .ok (.aload_n 0, 1) := by decide +kernel
theorem dX7_heed_78 : decode cX7_heed 78 = .ok (.getfield 116, 3) := by decide +kernel
theorem dX7_heed_81 : decode cX7_heed 81 = .ok (.isub, 1) := by decide +kernel
theorem dX7_heed_82 : decode cX7_heed 82 = .ok (.ireturn, 1) := by decide +kernel
theorem dX7_followUp_0 : decode cX7_followUp 0 = .ok (.aload_n 0, 1) := by decide +kernel
theorem dX7_followUp_1 : decode cX7_followUp 1 = .ok (.iload_n 1, 1) := by decide +kernel
theorem dX7_followUp_2 : decode cX7_followUp 2 = .ok (.bipush 100, 2) := by decide +kernel
theorem dX7_followUp_4 : decode cX7_followUp 4 = .ok (.invokevirtual 135, 3) := by decide +kernel
theorem dX7_followUp_7 : decode cX7_followUp 7 = .ok (.ifCond .eq 5, 3) := by decide +kernel
theorem dX7_followUp_10 : decode cX7_followUp 10 = .ok (.iconst 0, 1) := by decide +kernel
theorem dX7_followUp_11 : decode cX7_followUp 11 = .ok (.ireturn, 1) := by decide +kernel
theorem dX7_followUp_12 : decode cX7_followUp 12 = .ok (.aload_n 0, 1) := by decide +kernel
theorem dX7_followUp_13 : decode cX7_followUp 13 = .ok (.aload_n 0, 1) := by decide +kernel
theorem dX7_followUp_14 : decode cX7_followUp 14 = .ok (.getfield 116, 3) := by decide +kernel
theorem dX7_followUp_17 : decode cX7_followUp 17 = .ok (.aload_n 0, 1) := by decide +kernel
theorem dX7_followUp_18 : decode cX7_followUp 18 = .ok (.getfield 57, 3) := by decide +kernel
theorem dX7_followUp_21 : decode cX7_followUp 21 = .ok (.iload_n 1, 1) := by decide +kernel
theorem dX7_followUp_22 : decode cX7_followUp 22 = .ok (.iaload, 1) := by decide +kernel
theorem dX7_followUp_23 : decode cX7_followUp 23 = .ok (.if_icmp .le 7, 3) := by decide +kernel
theorem dX7_followUp_26 : decode cX7_followUp 26 = .ok (.iconst 0, 1) := by decide +kernel
theorem dX7_followUp_27 : decode cX7_followUp 27 = .ok (.goto 4, 3) := by decide +kernel
theorem dX7_followUp_30 : decode cX7_followUp 30 = .ok (.iconst 2, 1) := by decide +kernel
theorem dX7_followUp_31 : decode cX7_followUp 31 = .ok (.putfield 87, 3) := by decide +kernel
theorem dX7_followUp_34 : decode cX7_followUp 34 = .ok (.aload_n 0, 1) := by decide +kernel
theorem dX7_followUp_35 : decode cX7_followUp 35 = .ok (.getfield 87, 3) := by decide +kernel
theorem dX7_followUp_38 : decode cX7_followUp 38 = .ok (.ifCond .le 5, 3) := by decide +kernel
theorem dX7_followUp_41 : decode cX7_followUp 41 = .ok (.iconst 0, 1) := by decide +kernel
theorem dX7_followUp_42 : decode cX7_followUp 42 = .ok (.ireturn, 1) := by decide +kernel
theorem dX7_followUp_43 : decode cX7_followUp 43 = .ok (.aload_n 0, 1) := by decide +kernel
theorem dX7_followUp_44 : decode cX7_followUp 44 = .ok (.getfield 78, 3) := by decide +kernel
theorem dX7_followUp_47 : decode cX7_followUp 47 = .ok (.iload_n 1, 1) := by decide +kernel
theorem dX7_followUp_48 : decode cX7_followUp 48 = .ok (.iaload, 1) := by decide +kernel
theorem dX7_followUp_49 : decode cX7_followUp 49 = .ok (.iconst 1, 1) := by decide +kernel
theorem dX7_followUp_50 : decode cX7_followUp 50 = .ok (.if_icmp .ne 12, 3) := by decide +kernel
theorem dX7_followUp_53 : decode cX7_followUp 53 = .ok (.aload_n 0, 1) := by decide +kernel
theorem dX7_followUp_54 : decode cX7_followUp 54 = .ok (.iload_n 1, 1) := by decide +kernel
theorem dX7_followUp_55 : decode cX7_followUp 55 = .ok (.bipush 105, 2) := by decide +kernel
theorem dX7_followUp_57 : decode cX7_followUp 57 = .ok (.invokevirtual 145, 3) := by decide +kernel
theorem dX7_followUp_60 : decode cX7_followUp 60 = .ok (.iconst 0, 1) := by decide +kernel
theorem dX7_followUp_61 : decode cX7_followUp 61 = .ok (.ireturn, 1) := by decide +kernel
theorem dX7_followUp_62 : decode cX7_followUp 62 = .ok (.aload_n 0, 1) := by decide +kernel
theorem dX7_followUp_63 : decode cX7_followUp 63 = .ok (.getfield 78, 3) := by decide +kernel
theorem dX7_followUp_66 : decode cX7_followUp 66 = .ok (.iload_n 1, 1) := by decide +kernel
theorem dX7_followUp_67 : decode cX7_followUp 67 = .ok (.iconst 1, 1) := by decide +kernel
theorem dX7_followUp_68 : decode cX7_followUp 68 = .ok (.iastore, 1) := by decide +kernel
theorem dX7_followUp_69 : decode cX7_followUp 69 = .ok (.aload_n 0, 1) := by decide +kernel
theorem dX7_followUp_70 : decode cX7_followUp 70 = .ok (.getfield 72, 3) := by decide +kernel
theorem dX7_followUp_73 : decode cX7_followUp 73 = .ok (.iload_n 1, 1) := by decide +kernel
theorem dX7_followUp_74 : decode cX7_followUp 74 = .ok (.aload_n 0, 1) := by decide +kernel
theorem dX7_followUp_75 : decode cX7_followUp 75 = .ok (.getfield 72, 3) := by decide +kernel
theorem dX7_followUp_78 : decode cX7_followUp 78 = .ok (.iload_n 1, 1) := by decide +kernel
theorem dX7_followUp_79 : decode cX7_followUp 79 = .ok (.iaload, 1) := by decide +kernel
theorem dX7_followUp_80 : decode cX7_followUp 80 = .ok (.iconst 4, 1) := by decide +kernel
theorem dX7_followUp_81 : decode cX7_followUp 81 = .ok (.if_icmp .ne 7, 3) := by decide +kernel
theorem dX7_followUp_84 : decode cX7_followUp 84 = .ok (.iconst 4, 1) := by decide +kernel
theorem dX7_followUp_85 : decode cX7_followUp 85 = .ok (.goto 11, 3) := by decide +kernel
theorem dX7_followUp_88 : decode cX7_followUp 88 = .ok (.aload_n 0, 1) := by decide +kernel
theorem dX7_followUp_89 : decode cX7_followUp 89 = .ok (.getfield 72, 3) := by decide +kernel
theorem dX7_followUp_92 : decode cX7_followUp 92 = .ok (.iload_n 1, 1) := by decide +kernel
theorem dX7_followUp_93 : decode cX7_followUp 93 = .ok (.iaload, 1) := by decide +kernel
theorem dX7_followUp_94 : decode cX7_followUp 94 = .ok (.iconst 1, 1) := by decide +kernel
theorem dX7_followUp_95 : decode cX7_followUp 95 = .ok (.iadd, 1) := by decide +kernel
theorem dX7_followUp_96 : decode cX7_followUp 96 = .ok (.iastore, 1) := by decide +kernel
theorem dX7_followUp_97 : decode cX7_followUp 97 = .ok (.aload_n 0, 1) := by decide +kernel
theorem dX7_followUp_98 : decode cX7_followUp 98 = .ok (.getfield 57, 3) := by decide +kernel
theorem dX7_followUp_101 : decode cX7_followUp 101 = .ok (.iload_n 1, 1) := by decide +kernel
theorem dX7_followUp_102 : decode cX7_followUp 102 = .ok (.aload_n 0, 1) := by decide +kernel
theorem dX7_followUp_103 : decode cX7_followUp 103 = .ok (.getfield 116, 3) := by decide +kernel
theorem dX7_followUp_106 : decode cX7_followUp 106 = .ok (.bipush 30, 2) := by decide +kernel
theorem dX7_followUp_108 : decode cX7_followUp 108 = .ok (.aload_n 0, 1) := by decide +kernel
theorem dX7_followUp_109 : decode cX7_followUp 109 = .ok (.getfield 72, 3) := by decide +kernel
theorem dX7_followUp_112 : decode cX7_followUp 112 = .ok (.iload_n 1, 1) := by decide +kernel
theorem dX7_followUp_113 : decode cX7_followUp 113 = .ok (.iaload, 1) := by decide +kernel
theorem dX7_followUp_114 : decode cX7_followUp 114 = .ok (.imul, 1) := by decide +kernel
theorem dX7_followUp_115 : decode cX7_followUp 115 = .ok (.iadd, 1) := by decide +kernel
theorem dX7_followUp_116 : decode cX7_followUp 116 = .ok (.iastore, 1) := by decide +kernel
theorem dX7_followUp_117 : decode cX7_followUp 117 = .ok (.aload_n 0, 1) := by decide +kernel
theorem dX7_followUp_118 : decode cX7_followUp 118 = .ok (.getfield 75, 3) := by decide +kernel
theorem dX7_followUp_121 : decode cX7_followUp 121 = .ok (.iload_n 1, 1) := by decide +kernel
theorem dX7_followUp_122 : decode cX7_followUp 122 = .ok (.iconst (-1), 1) := by decide +kernel
theorem dX7_followUp_123 : decode cX7_followUp 123 = .ok (.iastore, 1) := by decide +kernel
theorem dX7_followUp_124 : decode cX7_followUp 124 = .ok (.aload_n 0, 1) := by decide +kernel
theorem dX7_followUp_125 : decode cX7_followUp 125 = .ok (.getfield 72, 3) := by decide +kernel
theorem dX7_followUp_128 : decode cX7_followUp 128 = .ok (.iload_n 1, 1) := by decide +kernel
theorem dX7_followUp_129 : decode cX7_followUp 129 = .ok (.iaload, 1) := by decide +kernel
theorem dX7_followUp_130 : decode cX7_followUp 130 = .ok (.ireturn, 1) := by decide +kernel
theorem dX7_withdraw_0 : decode cX7_withdraw 0 = .ok (.aload_n 0, 1) := by decide +kernel
theorem dX7_withdraw_1 : decode cX7_withdraw 1 = .ok (.iload_n 1, 1) := by decide +kernel
theorem dX7_withdraw_2 : decode cX7_withdraw 2 = .ok (.invokevirtual 126, 3) := by decide +kernel
theorem dX7_withdraw_5 : decode cX7_withdraw 5 = .ok (.ifCond .eq 5, 3) := by decide +kernel
theorem dX7_withdraw_8 : decode cX7_withdraw 8 = .ok (.iconst 0, 1) := by decide +kernel
theorem dX7_withdraw_9 : decode cX7_withdraw 9 = .ok (.ireturn, 1) := by decide +kernel
theorem dX7_withdraw_10 : decode cX7_withdraw 10 = .ok (.aload_n 0, 1) := by decide +kernel
theorem dX7_withdraw_11 : decode cX7_withdraw 11 = .ok (.aload_n 0, 1) := by decide +kernel
theorem dX7_withdraw_12 : decode cX7_withdraw 12 = .ok (.iload_n 1, 1) := by decide +kernel
theorem dX7_withdraw_13 : decode cX7_withdraw 13 = .ok (.invokevirtual 105, 3) := by decide +kernel
theorem dX7_withdraw_16 : decode cX7_withdraw 16 = .ok (.ifCond .ne 15, 3) := by decide +kernel
theorem dX7_withdraw_19 : decode cX7_withdraw 19 = .ok (.aload_n 0, 1) := by decide +kernel
theorem dX7_withdraw_20 : decode cX7_withdraw 20 = .ok (.getfield 40, 3) := by decide +kernel
theorem dX7_withdraw_23 : decode cX7_withdraw 23 = .ok (.iload_n 1, 1) := by decide +kernel
theorem dX7_withdraw_24 : decode cX7_withdraw 24 = .ok (.caload, 1) := by decide +kernel
theorem dX7_withdraw_25 : decode cX7_withdraw 25 = .ok (.invokestatic 112, 3) := by decide +kernel
theorem dX7_withdraw_28 : decode cX7_withdraw 28 = .ok (.ifCond .eq 7, 3) := by decide +kernel
theorem dX7_withdraw_31 : decode cX7_withdraw 31 = .ok (.iconst 2, 1) := by decide +kernel
theorem dX7_withdraw_32 : decode cX7_withdraw 32 = .ok (.goto 4, 3) := by decide +kernel
theorem dX7_withdraw_35 : decode cX7_withdraw 35 = .ok (.iconst 0, 1) := by decide +kernel
theorem dX7_withdraw_36 : decode cX7_withdraw 36 = .ok (.putfield 87, 3) := by decide +kernel
theorem dX7_withdraw_39 : decode cX7_withdraw 39 = .ok (.aload_n 0, 1) := by decide +kernel
theorem dX7_withdraw_40 : decode cX7_withdraw 40 = .ok (.getfield 87, 3) := by decide +kernel
theorem dX7_withdraw_43 : decode cX7_withdraw 43 = .ok (.ifCond .le 5, 3) := by decide +kernel
theorem dX7_withdraw_46 : decode cX7_withdraw 46 = .ok (.iconst 0, 1) := by decide +kernel
theorem dX7_withdraw_47 : decode cX7_withdraw 47 = .ok (.ireturn, 1) := by decide +kernel
theorem dX7_withdraw_48 : decode cX7_withdraw 48 = .ok (.iconst 0, 1) := by decide +kernel
theorem dX7_withdraw_49 : decode cX7_withdraw 49 = .ok (.istore_n 2, 1) := by decide +kernel
theorem dX7_withdraw_50 : decode cX7_withdraw 50 = .ok (.iconst 0, 1) := by decide +kernel
theorem dX7_withdraw_51 : decode cX7_withdraw 51 = .ok (.istore_n 3, 1) := by decide +kernel
theorem dX7_withdraw_52 : decode cX7_withdraw 52 = .ok (.iload_n 3, 1) := by decide +kernel
theorem dX7_withdraw_53 : decode cX7_withdraw 53 = .ok (.aload_n 0, 1) := by decide +kernel
theorem dX7_withdraw_54 : decode cX7_withdraw 54 = .ok (.getfield 98, 3) := by decide +kernel
theorem dX7_withdraw_57 : decode cX7_withdraw 57 = .ok (.if_icmp .ge 37, 3) := by decide +kernel
theorem dX7_withdraw_60 : decode cX7_withdraw 60 = .ok (.aload_n 0, 1) := by decide +kernel
theorem dX7_withdraw_61 : decode cX7_withdraw 61 = .ok (.getfield 44, 3) := by decide +kernel
theorem dX7_withdraw_64 : decode cX7_withdraw 64 = .ok (.iload_n 3, 1) := by decide +kernel
theorem dX7_withdraw_65 : decode cX7_withdraw 65 = .ok (.iaload, 1) := by decide +kernel
theorem dX7_withdraw_66 : decode cX7_withdraw 66 = .ok (.iload_n 1, 1) := by decide +kernel
theorem dX7_withdraw_67 : decode cX7_withdraw 67 = .ok (.if_icmp .ne 21, 3) := by decide +kernel
theorem dX7_withdraw_70 : decode cX7_withdraw 70 = .ok (.aload_n 0, 1) := by decide +kernel
theorem dX7_withdraw_71 : decode cX7_withdraw 71 = .ok (.getfield 44, 3) := by decide +kernel
theorem dX7_withdraw_74 : decode cX7_withdraw 74 = .ok (.iload_n 3, 1) := by decide +kernel
theorem dX7_withdraw_75 : decode cX7_withdraw 75 = .ok (.iconst (-1), 1) := by decide +kernel
theorem dX7_withdraw_76 : decode cX7_withdraw 76 = .ok (.iastore, 1) := by decide +kernel
theorem dX7_withdraw_77 : decode cX7_withdraw 77 = .ok (.aload_n 0, 1) := by decide +kernel
theorem dX7_withdraw_78 : decode cX7_withdraw 78 = .ok (.getfield 40, 3) := by decide +kernel
theorem dX7_withdraw_81 : decode cX7_withdraw 81 = .ok (.iload_n 3, 1) := by decide +kernel
theorem dX7_withdraw_82 : decode cX7_withdraw 82 = .ok (.bipush 114, 2) := by decide +kernel
theorem dX7_withdraw_84 : decode cX7_withdraw 84 = .ok (.castore, 1) := by decide +kernel
theorem dX7_withdraw_85 : decode cX7_withdraw 85 = .ok (.iinc 2 1, 3) := by decide +kernel
theorem dX7_withdraw_88 : decode cX7_withdraw 88 = .ok (.iinc 3 1, 3) := by decide +kernel
theorem dX7_withdraw_91 : decode cX7_withdraw 91 = .ok (.goto (-39), 3) := by decide +kernel
theorem dX7_withdraw_94 : decode cX7_withdraw 94 = .ok (.aload_n 0, 1) := by decide +kernel
theorem dX7_withdraw_95 : decode cX7_withdraw 95 = .ok (.iload_n 1, 1) := by decide +kernel
theorem dX7_withdraw_96 : decode cX7_withdraw 96 = .ok (.bipush 119, 2) := by decide +kernel
theorem dX7_withdraw_98 : decode cX7_withdraw 98 = .ok (.invokevirtual 145, 3) := by decide +kernel
theorem dX7_withdraw_101 : decode cX7_withdraw 101 = .ok (.iload_n 2, 1) := by decide +kernel
theorem dX7_withdraw_102 : decode cX7_withdraw 102 = .ok (.ireturn, 1) := by decide +kernel
theorem dX7_daysOf_0 : decode cX7_daysOf 0 = .ok (.aload_n 0, 1) := by decide +kernel
theorem dX7_daysOf_1 : decode cX7_daysOf 1 = .ok (.iload_n 1, 1) := by decide +kernel
theorem dX7_daysOf_2 : decode cX7_daysOf 2 = .ok (.invokevirtual 119, 3) := by decide +kernel
theorem dX7_daysOf_5 : decode cX7_daysOf 5 = .ok (.invokestatic 112, 3) := by decide +kernel
theorem dX7_daysOf_8 : decode cX7_daysOf 8 = .ok (.ifCond .eq 16, 3) := by decide +kernel
theorem dX7_daysOf_11 : decode cX7_daysOf 11 = .ok (.aload_n 0, 1) := by decide +kernel
theorem dX7_daysOf_12 : decode cX7_daysOf 12 = .ok (.getfield 81, 3) := by decide +kernel
theorem dX7_daysOf_15 : decode cX7_daysOf 15 = .ok (.aload_n 0, 1) := by decide +kernel
theorem dX7_daysOf_16 : decode cX7_daysOf 16 = .ok (.iload_n 1, 1) := by decide +kernel
theorem dX7_daysOf_17 : decode cX7_daysOf 17 = .ok (.invokevirtual 108, 3) := by decide +kernel
theorem dX7_daysOf_20 : decode cX7_daysOf 20 = .ok (.iaload, 1) := by decide +kernel
theorem dX7_daysOf_21 : decode cX7_daysOf 21 = .ok (.goto 7, 3) := by decide +kernel
theorem dX7_daysOf_24 : decode cX7_daysOf 24 = .ok (.aload_n 0, 1) := by decide +kernel
theorem dX7_daysOf_25 : decode cX7_daysOf 25 = .ok (.getfield 116, 3) := by decide +kernel
theorem dX7_daysOf_28 : decode cX7_daysOf 28 = .ok (.istore_n 2, 1) := by decide +kernel
theorem dX7_daysOf_29 : decode cX7_daysOf 29 = .ok (.iload_n 2, 1) := by decide +kernel
theorem dX7_daysOf_30 : decode cX7_daysOf 30 = .ok (.aload_n 0, 1) := by decide +kernel
theorem dX7_daysOf_31 : decode cX7_daysOf 31 = .ok (.getfield 37, 3) := by decide +kernel
theorem dX7_daysOf_34 : decode cX7_daysOf 34 = .ok (.iload_n 1, 1) := by decide +kernel
theorem dX7_daysOf_35 : decode cX7_daysOf 35 = .ok (.iaload, 1) := by decide +kernel
theorem dX7_daysOf_36 : decode cX7_daysOf 36 = .ok (.isub, 1) := by decide +kernel
theorem dX7_daysOf_37 : decode cX7_daysOf 37 = .ok (.aload_n 0, 1) := by decide +kernel
theorem dX7_daysOf_38 : decode cX7_daysOf 38 = .ok (.getfield 84, 3) := by decide +kernel
theorem dX7_daysOf_41 : decode cX7_daysOf 41 = .ok (.iload_n 1, 1) := by decide +kernel
theorem dX7_daysOf_42 : decode cX7_daysOf 42 = .ok (.iaload, 1) := by decide +kernel
theorem dX7_daysOf_43 : decode cX7_daysOf 43 = .ok (.isub, 1) := by decide +kernel
theorem dX7_daysOf_44 : decode cX7_daysOf 44 = .ok (.ireturn, 1) := by decide +kernel
theorem dX7_days_0 : decode cX7_days 0 = .ok (.aload_n 0, 1) := by decide +kernel
theorem dX7_days_1 : decode cX7_days 1 = .ok (.iload_n 1, 1) := by decide +kernel
theorem dX7_days_2 : decode cX7_days 2 = .ok (.invokevirtual 126, 3) := by decide +kernel
theorem dX7_days_5 : decode cX7_days 5 = .ok (.ifCond .eq 7, 3) := by decide +kernel
theorem dX7_days_8 : decode cX7_days 8 = .ok (.iconst 0, 1) := by decide +kernel
theorem dX7_days_9 : decode cX7_days 9 = .ok (.goto 8, 3) := by decide +kernel
theorem dX7_days_12 : decode cX7_days 12 = .ok (.aload_n 0, 1) := by decide +kernel
theorem dX7_days_13 : decode cX7_days 13 = .ok (.iload_n 1, 1) := by decide +kernel
theorem dX7_days_14 : decode cX7_days 14 = .ok (.invokevirtual 149, 3) := by decide +kernel
theorem dX7_days_17 : decode cX7_days 17 = .ok (.ireturn, 1) := by decide +kernel
theorem dX7_heededShare_0 : decode cX7_heededShare 0 = .ok (.aload_n 0, 1) := by decide +kernel
theorem dX7_heededShare_1 : decode cX7_heededShare 1 = .ok (.iload_n 1, 1) := by decide +kernel
theorem dX7_heededShare_2 : decode cX7_heededShare 2 = .ok (.invokevirtual 123, 3) := by decide +kernel
theorem dX7_heededShare_5 : decode cX7_heededShare 5 = .ok (.ifCond .ne 10, 3) := by decide +kernel
theorem dX7_heededShare_8 : decode cX7_heededShare 8 = .ok (.aload_n 0, 1) := by decide +kernel
theorem dX7_heededShare_9 : decode cX7_heededShare 9 = .ok (.iconst 1, 1) := by decide +kernel
theorem dX7_heededShare_10 : decode cX7_heededShare 10 = .ok (.putfield 87, 3) := by decide +kernel
theorem dX7_heededShare_13 : decode cX7_heededShare 13 = .ok (.fconst 0, 1) := by decide +kernel
theorem dX7_heededShare_14 : decode cX7_heededShare 14 = .ok (.freturn, 1) := by decide +kernel
theorem dX7_heededShare_15 : decode cX7_heededShare 15 = .ok (.aload_n 0, 1) := by decide +kernel
theorem dX7_heededShare_16 : decode cX7_heededShare 16 = .ok (.aload_n 0, 1) := by decide +kernel
theorem dX7_heededShare_17 : decode cX7_heededShare 17 = .ok (.getfield 16, 3) := by decide +kernel
theorem dX7_heededShare_20 : decode cX7_heededShare 20 = .ok (.iload_n 1, 1) := by decide +kernel
theorem dX7_heededShare_21 : decode cX7_heededShare 21 = .ok (.iaload, 1) := by decide +kernel
theorem dX7_heededShare_22 : decode cX7_heededShare 22 = .ok (.ifCond .ne 7, 3) := by decide +kernel
theorem dX7_heededShare_25 : decode cX7_heededShare 25 = .ok (.iconst 2, 1) := by decide +kernel
theorem dX7_heededShare_26 : decode cX7_heededShare 26 = .ok (.goto 4, 3) := by decide +kernel
theorem dX7_heededShare_29 : decode cX7_heededShare 29 = .ok (.iconst 0, 1) := by decide +kernel
theorem dX7_heededShare_30 : decode cX7_heededShare 30 = .ok (.putfield 87, 3) := by decide +kernel
theorem dX7_heededShare_33 : decode cX7_heededShare 33 = .ok (.aload_n 0, 1) := by decide +kernel
theorem dX7_heededShare_34 : decode cX7_heededShare 34 = .ok (.getfield 87, 3) := by decide +kernel
theorem dX7_heededShare_37 : decode cX7_heededShare 37 = .ok (.ifCond .le 7, 3) := by decide +kernel
theorem dX7_heededShare_40 : decode cX7_heededShare 40 = .ok (.fconst 0, 1) := by decide +kernel
theorem dX7_heededShare_41 : decode cX7_heededShare 41 = .ok (.goto 18, 3) := by decide +kernel
theorem dX7_heededShare_44 : decode cX7_heededShare 44 = .ok (.aload_n 0, 1) := by decide +kernel
theorem dX7_heededShare_45 : decode cX7_heededShare 45 = .ok (.getfield 19, 3) := by decide +kernel
theorem dX7_heededShare_48 : decode cX7_heededShare 48 = .ok (.iload_n 1, 1) := by decide +kernel
theorem dX7_heededShare_49 : decode cX7_heededShare 49 = .ok (.iaload, 1) := by decide +kernel
theorem dX7_heededShare_50 : decode cX7_heededShare 50 = .ok (.i2f, 1) := by decide +kernel
theorem dX7_heededShare_51 : decode cX7_heededShare 51 = .ok (.aload_n 0, 1) := by decide +kernel
theorem dX7_heededShare_52 : decode cX7_heededShare 52 = .ok (.getfield 16, 3) := by decide +kernel
theorem dX7_heededShare_55 : decode cX7_heededShare 55 = .ok (.iload_n 1, 1) := by decide +kernel
theorem dX7_heededShare_56 : decode cX7_heededShare 56 = .ok (.iaload, 1) := by decide +kernel
theorem dX7_heededShare_57 : decode cX7_heededShare 57 = .ok (.i2f, 1) := by decide +kernel
theorem dX7_heededShare_58 : decode cX7_heededShare 58 = .ok (.fdiv, 1) := by decide +kernel
theorem dX7_heededShare_59 : decode cX7_heededShare 59 = .ok (.freturn, 1) := by decide +kernel
theorem dX7_meanDays_0 : decode cX7_meanDays 0 = .ok (.iconst 0, 1) := by decide +kernel
theorem dX7_meanDays_1 : decode cX7_meanDays 1 = .ok (.istore_n 1, 1) := by decide +kernel
theorem dX7_meanDays_2 : decode cX7_meanDays 2 = .ok (.iconst 0, 1) := by decide +kernel
theorem dX7_meanDays_3 : decode cX7_meanDays 3 = .ok (.istore_n 2, 1) := by decide +kernel
theorem dX7_meanDays_4 : decode cX7_meanDays 4 = .ok (.iconst 0, 1) := by decide +kernel
theorem dX7_meanDays_5 : decode cX7_meanDays 5 = .ok (.istore_n 3, 1) := by decide +kernel
theorem dX7_meanDays_6 : decode cX7_meanDays 6 = .ok (.iload_n 3, 1) := by decide +kernel
theorem dX7_meanDays_7 : decode cX7_meanDays 7 = .ok (.aload_n 0, 1) := by decide +kernel
theorem dX7_meanDays_8 : decode cX7_meanDays 8 = .ok (.getfield 98, 3) := by decide +kernel
theorem dX7_meanDays_11 : decode cX7_meanDays 11 = .ok (.if_icmp .ge 31, 3) := by decide +kernel
theorem dX7_meanDays_14 : decode cX7_meanDays 14 = .ok (.aload_n 0, 1) := by decide +kernel
theorem dX7_meanDays_15 : decode cX7_meanDays 15 = .ok (.iload_n 3, 1) := by decide +kernel
theorem dX7_meanDays_16 : decode cX7_meanDays 16 = .ok (.invokevirtual 119, 3) := by decide +kernel
theorem dX7_meanDays_19 : decode cX7_meanDays 19 = .ok (.invokestatic 112, 3) := by decide +kernel
theorem dX7_meanDays_22 : decode cX7_meanDays 22 = .ok (.ifCond .eq 14, 3) := by decide +kernel
theorem dX7_meanDays_25 : decode cX7_meanDays 25 = .ok (.iload_n 1, 1) := by decide +kernel
theorem dX7_meanDays_26 : decode cX7_meanDays 26 = .ok (.aload_n 0, 1) := by decide +kernel
theorem dX7_meanDays_27 : decode cX7_meanDays 27 = .ok (.iload_n 3, 1) := by decide +kernel
theorem dX7_meanDays_28 : decode cX7_meanDays 28 = .ok (.invokevirtual 149, 3) := by decide +kernel
theorem dX7_meanDays_31 : decode cX7_meanDays 31 = .ok (.iadd, 1) := by decide +kernel
theorem dX7_meanDays_32 : decode cX7_meanDays 32 = .ok (.istore_n 1, 1) := by decide +kernel
theorem dX7_meanDays_33 : decode cX7_meanDays 33 = .ok (.iinc 2 1, 3) := by decide +kernel
theorem dX7_meanDays_36 : decode cX7_meanDays 36 = .ok (.iinc 3 1, 3) := by decide +kernel
theorem dX7_meanDays_39 : decode cX7_meanDays 39 = .ok (.goto (-33), 3) := by decide +kernel
theorem dX7_meanDays_42 : decode cX7_meanDays 42 = .ok (.aload_n 0, 1) := by decide +kernel
theorem dX7_meanDays_43 : decode cX7_meanDays 43 = .ok (.iload_n 2, 1) := by decide +kernel
theorem dX7_meanDays_44 : decode cX7_meanDays 44 = .ok (.ifCond .ne 7, 3) := by decide +kernel
theorem dX7_meanDays_47 : decode cX7_meanDays 47 = .ok (.iconst 1, 1) := by decide +kernel
theorem dX7_meanDays_48 : decode cX7_meanDays 48 = .ok (.goto 4, 3) := by decide +kernel
theorem dX7_meanDays_51 : decode cX7_meanDays 51 = .ok (.iconst 0, 1) := by decide +kernel
theorem dX7_meanDays_52 : decode cX7_meanDays 52 = .ok (.putfield 87, 3) := by decide +kernel
theorem dX7_meanDays_55 : decode cX7_meanDays 55 = .ok (.aload_n 0, 1) := by decide +kernel
theorem dX7_meanDays_56 : decode cX7_meanDays 56 = .ok (.getfield 87, 3) := by decide +kernel
theorem dX7_meanDays_59 : decode cX7_meanDays 59 = .ok (.ifCond .le 7, 3) := by decide +kernel
theorem dX7_meanDays_62 : decode cX7_meanDays 62 = .ok (.dconst 0, 1) := by decide +kernel
theorem dX7_meanDays_63 : decode cX7_meanDays 63 = .ok (.goto 8, 3) := by decide +kernel
theorem dX7_meanDays_66 : decode cX7_meanDays 66 = .ok (.iload_n 1, 1) := by decide +kernel
theorem dX7_meanDays_67 : decode cX7_meanDays 67 = .ok (.i2d, 1) := by decide +kernel
theorem dX7_meanDays_68 : decode cX7_meanDays 68 = .ok (.iload_n 2, 1) := by decide +kernel
theorem dX7_meanDays_69 : decode cX7_meanDays 69 = .ok (.i2d, 1) := by decide +kernel
theorem dX7_meanDays_70 : decode cX7_meanDays 70 = .ok (.ddiv, 1) := by decide +kernel
theorem dX7_meanDays_71 : decode cX7_meanDays 71 = .ok (.dreturn, 1) := by decide +kernel
theorem dX7_checksum_0 : decode cX7_checksum 0 = .ok (.aload_n 0, 1) := by decide +kernel
theorem dX7_checksum_1 : decode cX7_checksum 1 = .ok (.iconst 0, 1) := by decide +kernel
theorem dX7_checksum_2 : decode cX7_checksum 2 = .ok (.putfield 87, 3) := by decide +kernel
theorem dX7_checksum_5 : decode cX7_checksum 5 = .ok (.ldc2_w 152, 3) := by decide +kernel
theorem dX7_checksum_8 : decode cX7_checksum 8 = .ok (.lstore_n 1, 1) := by decide +kernel
theorem dX7_checksum_9 : decode cX7_checksum 9 = .ok (.iconst 0, 1) := by decide +kernel
theorem dX7_checksum_10 : decode cX7_checksum 10 = .ok (.istore_n 3, 1) := by decide +kernel
theorem dX7_checksum_11 : decode cX7_checksum 11 = .ok (.iload_n 3, 1) := by decide +kernel
theorem dX7_checksum_12 : decode cX7_checksum 12 = .ok (.aload_n 0, 1) := by decide +kernel
theorem dX7_checksum_13 : decode cX7_checksum 13 = .ok (.getfield 98, 3) := by decide +kernel
theorem dX7_checksum_16 : decode cX7_checksum 16 = .ok (.if_icmp .ge 35, 3) := by decide +kernel
theorem dX7_checksum_19 : decode cX7_checksum 19 = .ok (.ldc2_w 154, 3) := by decide +kernel
theorem dX7_checksum_22 : decode cX7_checksum 22 = .ok (.lload_n 1, 1) := by decide +kernel
theorem dX7_checksum_23 : decode cX7_checksum 23 = .ok (.lmul, 1) := by decide +kernel
theorem dX7_checksum_24 : decode cX7_checksum 24 = .ok (.aload_n 0, 1) := by decide +kernel
theorem dX7_checksum_25 : decode cX7_checksum 25 = .ok (.iload_n 3, 1) := by decide +kernel
theorem dX7_checksum_26 : decode cX7_checksum 26 = .ok (.invokevirtual 119, 3) := by decide +kernel
theorem dX7_checksum_29 : decode cX7_checksum 29 = .ok (.i2l, 1) := by decide +kernel
theorem dX7_checksum_30 : decode cX7_checksum 30 = .ok (.ladd, 1) := by decide +kernel
theorem dX7_checksum_31 : decode cX7_checksum 31 = .ok (.lstore_n 1, 1) := by decide +kernel
theorem dX7_checksum_32 : decode cX7_checksum 32 = .ok (.ldc2_w 154, 3) := by decide +kernel
theorem dX7_checksum_35 : decode cX7_checksum 35 = .ok (.lload_n 1, 1) := by decide +kernel
theorem dX7_checksum_36 : decode cX7_checksum 36 = .ok (.lmul, 1) := by decide +kernel
theorem dX7_checksum_37 : decode cX7_checksum 37 = .ok (.aload_n 0, 1) := by decide +kernel
theorem dX7_checksum_38 : decode cX7_checksum 38 = .ok (.iload_n 3, 1) := by decide +kernel
theorem dX7_checksum_39 : decode cX7_checksum 39 = .ok (.invokevirtual 149, 3) := by decide +kernel
theorem dX7_checksum_42 : decode cX7_checksum 42 = .ok (.i2l, 1) := by decide +kernel
theorem dX7_checksum_43 : decode cX7_checksum 43 = .ok (.ladd, 1) := by decide +kernel
theorem dX7_checksum_44 : decode cX7_checksum 44 = .ok (.lstore_n 1, 1) := by decide +kernel
theorem dX7_checksum_45 : decode cX7_checksum 45 = .ok (.iinc 3 1, 3) := by decide +kernel
theorem dX7_checksum_48 : decode cX7_checksum 48 = .ok (.goto (-37), 3) := by decide +kernel
theorem dX7_checksum_51 : decode cX7_checksum 51 = .ok (.ldc2_w 154, 3) := by decide +kernel
theorem dX7_checksum_54 : decode cX7_checksum 54 = .ok (.lload_n 1, 1) := by decide +kernel
theorem dX7_checksum_55 : decode cX7_checksum 55 = .ok (.lmul, 1) := by decide +kernel
theorem dX7_checksum_56 : decode cX7_checksum 56 = .ok (.aload_n 0, 1) := by decide +kernel
theorem dX7_checksum_57 : decode cX7_checksum 57 = .ok (.getfield 116, 3) := by decide +kernel
theorem dX7_checksum_60 : decode cX7_checksum 60 = .ok (.i2l, 1) := by decide +kernel
theorem dX7_checksum_61 : decode cX7_checksum 61 = .ok (.ladd, 1) := by decide +kernel
theorem dX7_checksum_62 : decode cX7_checksum 62 = .ok (.lreturn, 1) := by decide +kernel
theorem dX7_isSound_0 : decode cX7_isSound 0 = .ok (.aload_n 0, 1) := by decide +kernel
theorem dX7_isSound_1 : decode cX7_isSound 1 = .ok (.iconst 0, 1) := by decide +kernel
theorem dX7_isSound_2 : decode cX7_isSound 2 = .ok (.putfield 87, 3) := by decide +kernel
theorem dX7_isSound_5 : decode cX7_isSound 5 = .ok (.iconst 1, 1) := by decide +kernel
theorem dX7_isSound_6 : decode cX7_isSound 6 = .ok (.ireturn, 1) := by decide +kernel
