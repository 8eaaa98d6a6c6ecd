theorem d_Mo_init_0 : decode b_Mo_init 0 = .ok (.aload_n 0, 1) := by decide +kernel
theorem d_Mo_init_1 : decode b_Mo_init 1 = .ok (.invokespecial 1, 3) := by decide +kernel
theorem d_Mo_init_4 : decode b_Mo_init 4 = .ok (.aload_n 0, 1) := by decide +kernel
theorem d_Mo_init_5 : decode b_Mo_init 5 = .ok (.ldc 7, 2) := by decide +kernel
theorem d_Mo_init_7 : decode b_Mo_init 7 = .ok (.newarray .byte, 2) := by decide +kernel
theorem d_Mo_init_9 : decode b_Mo_init 9 = .ok (.putfield 8, 3) := by decide +kernel
theorem d_Mo_init_12 : decode b_Mo_init 12 = .ok (.aload_n 0, 1) := by decide +kernel
theorem d_Mo_init_13 : decode b_Mo_init 13 = .ok (.ldc 14, 2) := by decide +kernel
theorem d_Mo_init_15 : decode b_Mo_init 15 = .ok (.newarray .byte, 2) := by decide +kernel
theorem d_Mo_init_17 : decode b_Mo_init 17 = .ok (.putfield 15, 3) := by decide +kernel
theorem d_Mo_init_20 : decode b_Mo_init 20 = .ok (.aload_n 0, 1) := by decide +kernel
theorem d_Mo_init_21 : decode b_Mo_init 21 = .ok (.sipush 256, 3) := by decide +kernel
theorem d_Mo_init_24 : decode b_Mo_init 24 = .ok (.newarray .int, 2) := by decide +kernel
theorem d_Mo_init_26 : decode b_Mo_init 26 = .ok (.putfield 18, 3) := by decide +kernel
theorem d_Mo_init_29 : decode b_Mo_init 29 = .ok (.aload_n 0, 1) := by decide +kernel
theorem d_Mo_init_30 : decode b_Mo_init 30 = .ok (.sipush 256, 3) := by decide +kernel
theorem d_Mo_init_33 : decode b_Mo_init 33 = .ok (.newarray .long, 2) := by decide +kernel
theorem d_Mo_init_35 : decode b_Mo_init 35 = .ok (.putfield 22, 3) := by decide +kernel
theorem d_Mo_init_38 : decode b_Mo_init 38 = .ok (.aload_n 0, 1) := by decide +kernel
theorem d_Mo_init_39 : decode b_Mo_init 39 = .ok (.sipush 8192, 3) := by decide +kernel
theorem d_Mo_init_42 : decode b_Mo_init 42 = .ok (.newarray .int, 2) := by decide +kernel
theorem d_Mo_init_44 : decode b_Mo_init 44 = .ok (.putfield 26, 3) := by decide +kernel
theorem d_Mo_init_47 : decode b_Mo_init 47 = .ok (.aload_n 0, 1) := by decide +kernel
theorem d_Mo_init_48 : decode b_Mo_init 48 = .ok (.sipush 8192, 3) := by decide +kernel
theorem d_Mo_init_51 : decode b_Mo_init 51 = .ok (.newarray .long, 2) := by decide +kernel
theorem d_Mo_init_53 : decode b_Mo_init 53 = .ok (.putfield 29, 3) := by decide +kernel
theorem d_Mo_init_56 : decode b_Mo_init 56 = .ok (.aload_n 0, 1) := by decide +kernel
theorem d_Mo_init_57 : decode b_Mo_init 57 = .ok (.sipush 8192, 3) := by decide +kernel
theorem d_Mo_init_60 : decode b_Mo_init 60 = .ok (.newarray .long, 2) := by decide +kernel
theorem d_Mo_init_62 : decode b_Mo_init 62 = .ok (.putfield 32, 3) := by decide +kernel
theorem d_Mo_init_65 : decode b_Mo_init 65 = .ok (.aload_n 0, 1) := by decide +kernel
theorem d_Mo_init_66 : decode b_Mo_init 66 = .ok (.sipush 8192, 3) := by decide +kernel
theorem d_Mo_init_69 : decode b_Mo_init 69 = .ok (.newarray .byte, 2) := by decide +kernel
theorem d_Mo_init_71 : decode b_Mo_init 71 = .ok (.putfield 35, 3) := by decide +kernel
theorem d_Mo_init_74 : decode b_Mo_init 74 = .ok (.aload_n 0, 1) := by decide +kernel
theorem d_Mo_init_75 : decode b_Mo_init 75 = .ok (.bipush 28, 2) := by decide +kernel
theorem d_Mo_init_77 : decode b_Mo_init 77 = .ok (.newarray .int, 2) := by decide +kernel
theorem d_Mo_init_79 : decode b_Mo_init 79 = .ok (.putfield 38, 3) := by decide +kernel
theorem d_Mo_init_82 : decode b_Mo_init 82 = .ok (.aload_n 0, 1) := by decide +kernel
theorem d_Mo_init_83 : decode b_Mo_init 83 = .ok (.bipush 20, 2) := by decide +kernel
theorem d_Mo_init_85 : decode b_Mo_init 85 = .ok (.newarray .int, 2) := by decide +kernel
theorem d_Mo_init_87 : decode b_Mo_init 87 = .ok (.putfield 41, 3) := by decide +kernel
theorem d_Mo_init_90 : decode b_Mo_init 90 = .ok (.aload_n 0, 1) := by decide +kernel
theorem d_Mo_init_91 : decode b_Mo_init 91 = .ok (.bipush 120, 2) := by decide +kernel
theorem d_Mo_init_93 : decode b_Mo_init 93 = .ok (.newarray .int, 2) := by decide +kernel
theorem d_Mo_init_95 : decode b_Mo_init 95 = .ok (.putfield 44, 3) := by decide +kernel
theorem d_Mo_init_98 : decode b_Mo_init 98 = .ok (.aload_n 0, 1) := by decide +kernel
theorem d_Mo_init_99 : decode b_Mo_init 99 = .ok (.bipush 120, 2) := by decide +kernel
theorem d_Mo_init_101 : decode b_Mo_init 101 = .ok (.newarray .int, 2) := by decide +kernel
theorem d_Mo_init_103 : decode b_Mo_init 103 = .ok (.putfield 47, 3) := by decide +kernel
theorem d_Mo_init_106 : decode b_Mo_init 106 = .ok (.aload_n 0, 1) := by decide +kernel
theorem d_Mo_init_107 : decode b_Mo_init 107 = .ok (.bipush 20, 2) := by decide +kernel
theorem d_Mo_init_109 : decode b_Mo_init 109 = .ok (.newarray .int, 2) := by decide +kernel
theorem d_Mo_init_111 : decode b_Mo_init 111 = .ok (.putfield 50, 3) := by decide +kernel
theorem d_Mo_init_114 : decode b_Mo_init 114 = .ok (.aload_n 0, 1) := by decide +kernel
theorem d_Mo_init_115 : decode b_Mo_init 115 = .ok (.sipush 5120, 3) := by decide +kernel
theorem d_Mo_init_118 : decode b_Mo_init 118 = .ok (.newarray .int, 2) := by decide +kernel
theorem d_Mo_init_120 : decode b_Mo_init 120 = .ok (.putfield 53, 3) := by decide +kernel
theorem d_Mo_init_123 : decode b_Mo_init 123 = .ok (.aload_n 0, 1) := by decide +kernel
theorem d_Mo_init_124 : decode b_Mo_init 124 = .ok (.ldc 56, 2) := by decide +kernel
theorem d_Mo_init_126 : decode b_Mo_init 126 = .ok (.newarray .long, 2) := by decide +kernel
theorem d_Mo_init_128 : decode b_Mo_init 128 = .ok (.putfield 57, 3) := by decide +kernel
theorem d_Mo_init_131 : decode b_Mo_init 131 = .ok (.aload_n 0, 1) := by decide +kernel
theorem d_Mo_init_132 : decode b_Mo_init 132 = .ok (.ldc 56, 2) := by decide +kernel
theorem d_Mo_init_134 : decode b_Mo_init 134 = .ok (.newarray .boolean, 2) := by decide +kernel
theorem d_Mo_init_136 : decode b_Mo_init 136 = .ok (.putfield 60, 3) := by decide +kernel
theorem d_Mo_init_139 : decode b_Mo_init 139 = .ok (.aload_n 0, 1) := by decide +kernel
theorem d_Mo_init_140 : decode b_Mo_init 140 = .ok (.bipush 21, 2) := by decide +kernel
theorem d_Mo_init_142 : decode b_Mo_init 142 = .ok (.newarray .int, 2) := by decide +kernel
theorem d_Mo_init_144 : decode b_Mo_init 144 = .ok (.putfield 64, 3) := by decide +kernel
theorem d_Mo_init_147 : decode b_Mo_init 147 = .ok (.aload_n 0, 1) := by decide +kernel
theorem d_Mo_init_148 : decode b_Mo_init 148 = .ok (.sipush 256, 3) := by decide +kernel
theorem d_Mo_init_151 : decode b_Mo_init 151 = .ok (.newarray .int, 2) := by decide +kernel
theorem d_Mo_init_153 : decode b_Mo_init 153 = .ok (.putfield 67, 3) := by decide +kernel
theorem d_Mo_init_156 : decode b_Mo_init 156 = .ok (.aload_n 0, 1) := by decide +kernel
theorem d_Mo_init_157 : decode b_Mo_init 157 = .ok (.sipush 16384, 3) := by decide +kernel
theorem d_Mo_init_160 : decode b_Mo_init 160 = .ok (.newarray .long, 2) := by decide +kernel
theorem d_Mo_init_162 : decode b_Mo_init 162 = .ok (.putfield 70, 3) := by decide +kernel
theorem d_Mo_init_165 : decode b_Mo_init 165 = .ok (.aload_n 0, 1) := by decide +kernel
theorem d_Mo_init_166 : decode b_Mo_init 166 = .ok (.sipush 16384, 3) := by decide +kernel
theorem d_Mo_init_169 : decode b_Mo_init 169 = .ok (.newarray .int, 2) := by decide +kernel
theorem d_Mo_init_171 : decode b_Mo_init 171 = .ok (.putfield 73, 3) := by decide +kernel
theorem d_Mo_init_174 : decode b_Mo_init 174 = .ok (.aload_n 0, 1) := by decide +kernel
theorem d_Mo_init_175 : decode b_Mo_init 175 = .ok (.sipush 256, 3) := by decide +kernel
theorem d_Mo_init_178 : decode b_Mo_init 178 = .ok (.newarray .long, 2) := by decide +kernel
theorem d_Mo_init_180 : decode b_Mo_init 180 = .ok (.putfield 76, 3) := by decide +kernel
theorem d_Mo_init_183 : decode b_Mo_init 183 = .ok (.aload_n 0, 1) := by decide +kernel
theorem d_Mo_init_184 : decode b_Mo_init 184 = .ok (.sipush 256, 3) := by decide +kernel
theorem d_Mo_init_187 : decode b_Mo_init 187 = .ok (.newarray .boolean, 2) := by decide +kernel
theorem d_Mo_init_189 : decode b_Mo_init 189 = .ok (.putfield 79, 3) := by decide +kernel
theorem d_Mo_init_192 : decode b_Mo_init 192 = .ok (.aload_n 0, 1) := by decide +kernel
theorem d_Mo_init_193 : decode b_Mo_init 193 = .ok (.bipush 32, 2) := by decide +kernel
theorem d_Mo_init_195 : decode b_Mo_init 195 = .ok (.newarray .int, 2) := by decide +kernel
theorem d_Mo_init_197 : decode b_Mo_init 197 = .ok (.putfield 82, 3) := by decide +kernel
theorem d_Mo_init_200 : decode b_Mo_init 200 = .ok (.aload_n 0, 1) := by decide +kernel
theorem d_Mo_init_201 : decode b_Mo_init 201 = .ok (.bipush 32, 2) := by decide +kernel
theorem d_Mo_init_203 : decode b_Mo_init 203 = .ok (.newarray .int, 2) := by decide +kernel
theorem d_Mo_init_205 : decode b_Mo_init 205 = .ok (.putfield 85, 3) := by decide +kernel
theorem d_Mo_init_208 : decode b_Mo_init 208 = .ok (.aload_n 0, 1) := by decide +kernel
theorem d_Mo_init_209 : decode b_Mo_init 209 = .ok (.ldc 88, 2) := by decide +kernel
theorem d_Mo_init_211 : decode b_Mo_init 211 = .ok (.newarray .byte, 2) := by decide +kernel
theorem d_Mo_init_213 : decode b_Mo_init 213 = .ok (.putfield 89, 3) := by decide +kernel
theorem d_Mo_init_216 : decode b_Mo_init 216 = .ok (.aload_n 0, 1) := by decide +kernel
theorem d_Mo_init_217 : decode b_Mo_init 217 = .ok (.sipush 1536, 3) := by decide +kernel
theorem d_Mo_init_220 : decode b_Mo_init 220 = .ok (.newarray .int, 2) := by decide +kernel
theorem d_Mo_init_222 : decode b_Mo_init 222 = .ok (.putfield 92, 3) := by decide +kernel
theorem d_Mo_init_225 : decode b_Mo_init 225 = .ok (.aload_n 0, 1) := by decide +kernel
theorem d_Mo_init_226 : decode b_Mo_init 226 = .ok (.sipush 16384, 3) := by decide +kernel
theorem d_Mo_init_229 : decode b_Mo_init 229 = .ok (.newarray .long, 2) := by decide +kernel
theorem d_Mo_init_231 : decode b_Mo_init 231 = .ok (.putfield 95, 3) := by decide +kernel
theorem d_Mo_init_234 : decode b_Mo_init 234 = .ok (.aload_n 0, 1) := by decide +kernel
theorem d_Mo_init_235 : decode b_Mo_init 235 = .ok (.sipush 16384, 3) := by decide +kernel
theorem d_Mo_init_238 : decode b_Mo_init 238 = .ok (.newarray .boolean, 2) := by decide +kernel
theorem d_Mo_init_240 : decode b_Mo_init 240 = .ok (.putfield 98, 3) := by decide +kernel
theorem d_Mo_init_243 : decode b_Mo_init 243 = .ok (.return_, 1) := by decide +kernel
theorem d_Mo_thrown_0 : decode b_Mo_thrown 0 = .ok (.aload_n 0, 1) := by decide +kernel
theorem d_Mo_thrown_1 : decode b_Mo_thrown 1 = .ok (.getfield 101, 3) := by decide +kernel
theorem d_Mo_thrown_4 : decode b_Mo_thrown 4 = .ok (.ireturn, 1) := by decide +kernel
theorem d_Mo_feed_0 : decode b_Mo_feed 0 = .ok (.aload_n 0, 1) := by decide +kernel
theorem d_Mo_feed_1 : decode b_Mo_feed 1 = .ok (.aload_n 0, 1) := by decide +kernel
theorem d_Mo_feed_2 : decode b_Mo_feed 2 = .ok (.getfield 105, 3) := by decide +kernel
theorem d_Mo_feed_5 : decode b_Mo_feed 5 = .ok (.bipush 20, 2) := by decide +kernel
theorem d_Mo_feed_7 : decode b_Mo_feed 7 = .ok (.iadd, 1) := by decide +kernel
theorem d_Mo_feed_8 : decode b_Mo_feed 8 = .ok (.ldc 7, 2) := by decide +kernel
theorem d_Mo_feed_10 : decode b_Mo_feed 10 = .ok (.if_icmp .le 7, 3) := by decide +kernel
theorem d_Mo_feed_13 : decode b_Mo_feed 13 = .ok (.iconst 1, 1) := by decide +kernel
theorem d_Mo_feed_14 : decode b_Mo_feed 14 = .ok (.goto 4, 3) := by decide +kernel
theorem d_Mo_feed_17 : decode b_Mo_feed 17 = .ok (.iconst 0, 1) := by decide +kernel
theorem d_Mo_feed_18 : decode b_Mo_feed 18 = .ok (.putfield 101, 3) := by decide +kernel
theorem d_Mo_feed_21 : decode b_Mo_feed 21 = .ok (.aload_n 0, 1) := by decide +kernel
theorem d_Mo_feed_22 : decode b_Mo_feed 22 = .ok (.getfield 101, 3) := by decide +kernel
theorem d_Mo_feed_25 : decode b_Mo_feed 25 = .ok (.ifCond .le 5, 3) := by decide +kernel
theorem d_Mo_feed_28 : decode b_Mo_feed 28 = .ok (.iconst 0, 1) := by decide +kernel
theorem d_Mo_feed_29 : decode b_Mo_feed 29 = .ok (.ireturn, 1) := by decide +kernel
theorem d_Mo_feed_30 : decode b_Mo_feed 30 = .ok (.iconst 0, 1) := by decide +kernel
theorem d_Mo_feed_31 : decode b_Mo_feed 31 = .ok (.istore 6, 2) := by decide +kernel
theorem d_Mo_feed_33 : decode b_Mo_feed 33 = .ok (.iload 6, 2) := by decide +kernel
theorem d_Mo_feed_35 : decode b_Mo_feed 35 = .ok (.bipush 20, 2) := by decide +kernel
theorem d_Mo_feed_37 : decode b_Mo_feed 37 = .ok (.if_icmp .ge 90, 3) := by decide +kernel
theorem d_Mo_feed_40 : decode b_Mo_feed 40 = .ok (.iload 6, 2) := by decide +kernel
theorem d_Mo_feed_42 : decode b_Mo_feed 42 = .ok (.iconst 4, 1) := by decide +kernel
theorem d_Mo_feed_43 : decode b_Mo_feed 43 = .ok (.if_icmp .ge 7, 3) := by decide +kernel
theorem d_Mo_feed_46 : decode b_Mo_feed 46 = .ok (.iload_n 1, 1) := by decide +kernel
theorem d_Mo_feed_47 : decode b_Mo_feed 47 = .ok (.goto 39, 3) := by decide +kernel
theorem d_Mo_feed_50 : decode b_Mo_feed 50 = .ok (.iload 6, 2) := by decide +kernel
theorem d_Mo_feed_52 : decode b_Mo_feed 52 = .ok (.bipush 8, 2) := by decide +kernel
theorem d_Mo_feed_54 : decode b_Mo_feed 54 = .ok (.if_icmp .ge 7, 3) := by decide +kernel
theorem d_Mo_feed_57 : decode b_Mo_feed 57 = .ok (.iload_n 2, 1) := by decide +kernel
theorem d_Mo_feed_58 : decode b_Mo_feed 58 = .ok (.goto 28, 3) := by decide +kernel
theorem d_Mo_feed_61 : decode b_Mo_feed 61 = .ok (.iload 6, 2) := by decide +kernel
theorem d_Mo_feed_63 : decode b_Mo_feed 63 = .ok (.bipush 12, 2) := by decide +kernel
theorem d_Mo_feed_65 : decode b_Mo_feed 65 = .ok (.if_icmp .ge 7, 3) := by decide +kernel
theorem d_Mo_feed_68 : decode b_Mo_feed 68 = .ok (.iload_n 3, 1) := by decide +kernel
theorem d_Mo_feed_69 : decode b_Mo_feed 69 = .ok (.goto 17, 3) := by decide +kernel
theorem d_Mo_feed_72 : decode b_Mo_feed 72 = .ok (.iload 6, 2) := by decide +kernel
theorem d_Mo_feed_74 : decode b_Mo_feed 74 = .ok (.bipush 16, 2) := by decide +kernel
theorem d_Mo_feed_76 : decode b_Mo_feed 76 = .ok (.if_icmp .ge 8, 3) := by decide +kernel
theorem d_Mo_feed_79 : decode b_Mo_feed 79 = .ok (.iload 4, 2) := by decide +kernel
theorem d_Mo_feed_81 : decode b_Mo_feed 81 = .ok (.goto 5, 3) := by decide +kernel
theorem d_Mo_feed_84 : decode b_Mo_feed 84 = .ok (.iload 5, 2) := by decide +kernel
theorem d_Mo_feed_86 : decode b_Mo_feed 86 = .ok (.istore 7, 2) := by decide +kernel
theorem d_Mo_feed_88 : decode b_Mo_feed 88 = .ok (.aload_n 0, 1) := by decide +kernel
theorem d_Mo_feed_89 : decode b_Mo_feed 89 = .ok (.getfield 8, 3) := by decide +kernel
theorem d_Mo_feed_92 : decode b_Mo_feed 92 = .ok (.aload_n 0, 1) := by decide +kernel
theorem d_Mo_feed_93 : decode b_Mo_feed 93 = .ok (.getfield 105, 3) := by decide +kernel
theorem d_Mo_feed_96 : decode b_Mo_feed 96 = .ok (.iload 7, 2) := by decide +kernel
theorem d_Mo_feed_98 : decode b_Mo_feed 98 = .ok (.bipush 24, 2) := by decide +kernel
theorem d_Mo_feed_100 : decode b_Mo_feed 100 = .ok (.bipush 8, 2) := by decide +kernel
theorem d_Mo_feed_102 : decode b_Mo_feed 102 = .ok (.iload 6, 2) := by decide +kernel
theorem d_Mo_feed_104 : decode b_Mo_feed 104 = .ok (.iconst 4, 1) := by decide +kernel
theorem d_Mo_feed_105 : decode b_Mo_feed 105 = .ok (.irem, 1) := by decide +kernel
theorem d_Mo_feed_106 : decode b_Mo_feed 106 = .ok (.imul, 1) := by decide +kernel
theorem d_Mo_feed_107 : decode b_Mo_feed 107 = .ok (.isub, 1) := by decide +kernel
theorem d_Mo_feed_108 : decode b_Mo_feed 108 = .ok (.ishr, 1) := by decide +kernel
theorem d_Mo_feed_109 : decode b_Mo_feed 109 = .ok (.i2b, 1) := by decide +kernel
theorem d_Mo_feed_110 : decode b_Mo_feed 110 = .ok (.bastore, 1) := by decide +kernel
theorem d_Mo_feed_111 : decode b_Mo_feed 111 = .ok (.aload_n 0, 1) := by decide +kernel
theorem d_Mo_feed_112 : decode b_Mo_feed 112 = .ok (.dup, 1) := by decide +kernel
theorem d_Mo_feed_113 : decode b_Mo_feed 113 = .ok (.getfield 105, 3) := by decide +kernel
theorem d_Mo_feed_116 : decode b_Mo_feed 116 = .ok (.iconst 1, 1) := by decide +kernel
theorem d_Mo_feed_117 : decode b_Mo_feed 117 = .ok (.iadd, 1) := by decide +kernel
theorem d_Mo_feed_118 : decode b_Mo_feed 118 = .ok (.putfield 105, 3) := by decide +kernel
theorem d_Mo_feed_121 : decode b_Mo_feed 121 = .ok (.iinc 6 1, 3) := by decide +kernel
theorem d_Mo_feed_124 : decode b_Mo_feed 124 = .ok (.goto (-91), 3) := by decide +kernel
theorem d_Mo_feed_127 : decode b_Mo_feed 127 = .ok (.aload_n 0, 1) := by decide +kernel
theorem d_Mo_feed_128 : decode b_Mo_feed 128 = .ok (.getfield 105, 3) := by decide +kernel
theorem d_Mo_feed_131 : decode b_Mo_feed 131 = .ok (.ireturn, 1) := by decide +kernel
theorem d_Mo_end_0 : decode b_Mo_end 0 = .ok (.aload_n 0, 1) := by decide +kernel
theorem d_Mo_end_1 : decode b_Mo_end 1 = .ok (.iload_n 1, 1) := by decide +kernel
theorem d_Mo_end_2 : decode b_Mo_end 2 = .ok (.ifCond .lt 11, 3) := by decide +kernel
theorem d_Mo_end_5 : decode b_Mo_end 5 = .ok (.iload_n 1, 1) := by decide +kernel
theorem d_Mo_end_6 : decode b_Mo_end 6 = .ok (.aload_n 0, 1) := by decide +kernel
theorem d_Mo_end_7 : decode b_Mo_end 7 = .ok (.getfield 105, 3) := by decide +kernel
theorem d_Mo_end_10 : decode b_Mo_end 10 = .ok (.if_icmp .le 7, 3) := by decide +kernel
theorem d_Mo_end_13 : decode b_Mo_end 13 = .ok (.iconst 1, 1) := by decide +kernel
theorem d_Mo_end_14 : decode b_Mo_end 14 = .ok (.goto 4, 3) := by decide +kernel
theorem d_Mo_end_17 : decode b_Mo_end 17 = .ok (.iconst 0, 1) := by decide +kernel
theorem d_Mo_end_18 : decode b_Mo_end 18 = .ok (.putfield 101, 3) := by decide +kernel
theorem d_Mo_end_21 : decode b_Mo_end 21 = .ok (.aload_n 0, 1) := by decide +kernel
theorem d_Mo_end_22 : decode b_Mo_end 22 = .ok (.aload_n 0, 1) := by decide +kernel
theorem d_Mo_end_23 : decode b_Mo_end 23 = .ok (.getfield 101, 3) := by decide +kernel
theorem d_Mo_end_26 : decode b_Mo_end 26 = .ok (.ifCond .ne 7, 3) := by decide +kernel
theorem d_Mo_end_29 : decode b_Mo_end 29 = .ok (.iload_n 1, 1) := by decide +kernel
theorem d_Mo_end_30 : decode b_Mo_end 30 = .ok (.goto 7, 3) := by decide +kernel
theorem d_Mo_end_33 : decode b_Mo_end 33 = .ok (.aload_n 0, 1) := by decide +kernel
theorem d_Mo_end_34 : decode b_Mo_end 34 = .ok (.getfield 105, 3) := by decide +kernel
theorem d_Mo_end_37 : decode b_Mo_end 37 = .ok (.putfield 105, 3) := by decide +kernel
theorem d_Mo_end_40 : decode b_Mo_end 40 = .ok (.return_, 1) := by decide +kernel
theorem d_Mo_fault_0 : decode b_Mo_fault 0 = .ok (.aload_n 0, 1) := by decide +kernel
theorem d_Mo_fault_1 : decode b_Mo_fault 1 = .ok (.iload_n 1, 1) := by decide +kernel
theorem d_Mo_fault_2 : decode b_Mo_fault 2 = .ok (.ifCond .eq 8, 3) := by decide +kernel
theorem d_Mo_fault_5 : decode b_Mo_fault 5 = .ok (.iload_n 1, 1) := by decide +kernel
theorem d_Mo_fault_6 : decode b_Mo_fault 6 = .ok (.iconst 1, 1) := by decide +kernel
theorem d_Mo_fault_7 : decode b_Mo_fault 7 = .ok (.if_icmp .ne 7, 3) := by decide +kernel
theorem d_Mo_fault_10 : decode b_Mo_fault 10 = .ok (.iconst 0, 1) := by decide +kernel
theorem d_Mo_fault_11 : decode b_Mo_fault 11 = .ok (.goto 4, 3) := by decide +kernel
theorem d_Mo_fault_14 : decode b_Mo_fault 14 = .ok (.iconst 1, 1) := by decide +kernel
theorem d_Mo_fault_15 : decode b_Mo_fault 15 = .ok (.putfield 101, 3) := by decide +kernel
theorem d_Mo_fault_18 : decode b_Mo_fault 18 = .ok (.aload_n 0, 1) := by decide +kernel
theorem d_Mo_fault_19 : decode b_Mo_fault 19 = .ok (.getfield 101, 3) := by decide +kernel
theorem d_Mo_fault_22 : decode b_Mo_fault 22 = .ok (.ifCond .le 7, 3) := by decide +kernel
theorem d_Mo_fault_25 : decode b_Mo_fault 25 = .ok (.iconst 0, 1) := by decide +kernel
theorem d_Mo_fault_26 : decode b_Mo_fault 26 = .ok (.goto 18, 3) := by decide +kernel
theorem d_Mo_fault_29 : decode b_Mo_fault 29 = .ok (.iload_n 1, 1) := by decide +kernel
theorem d_Mo_fault_30 : decode b_Mo_fault 30 = .ok (.ifCond .ne 10, 3) := by decide +kernel
theorem d_Mo_fault_33 : decode b_Mo_fault 33 = .ok (.aload_n 0, 1) := by decide +kernel
theorem d_Mo_fault_34 : decode b_Mo_fault 34 = .ok (.getfield 108, 3) := by decide +kernel
theorem d_Mo_fault_37 : decode b_Mo_fault 37 = .ok (.goto 7, 3) := by decide +kernel
theorem d_Mo_fault_40 : decode b_Mo_fault 40 = .ok (.aload_n 0, 1) := by decide +kernel
theorem d_Mo_fault_41 : decode b_Mo_fault 41 = .ok (.getfield 111, 3) := by decide +kernel
theorem d_Mo_fault_44 : decode b_Mo_fault 44 = .ok (.ireturn, 1) := by decide +kernel
theorem d_Mo_isSeen_0 : decode b_Mo_isSeen 0 = .ok (.aload_n 0, 1) := by decide +kernel
theorem d_Mo_isSeen_1 : decode b_Mo_isSeen 1 = .ok (.getfield 35, 3) := by decide +kernel
theorem d_Mo_isSeen_4 : decode b_Mo_isSeen 4 = .ok (.iload_n 1, 1) := by decide +kernel
theorem d_Mo_isSeen_5 : decode b_Mo_isSeen 5 = .ok (.baload, 1) := by decide +kernel
theorem d_Mo_isSeen_6 : decode b_Mo_isSeen 6 = .ok (.iconst 2, 1) := by decide +kernel
theorem d_Mo_isSeen_7 : decode b_Mo_isSeen 7 = .ok (.if_icmp .ge 7, 3) := by decide +kernel
theorem d_Mo_isSeen_10 : decode b_Mo_isSeen 10 = .ok (.iconst 1, 1) := by decide +kernel
theorem d_Mo_isSeen_11 : decode b_Mo_isSeen 11 = .ok (.goto 4, 3) := by decide +kernel
theorem d_Mo_isSeen_14 : decode b_Mo_isSeen 14 = .ok (.iconst 0, 1) := by decide +kernel
theorem d_Mo_isSeen_15 : decode b_Mo_isSeen 15 = .ok (.ireturn, 1) := by decide +kernel
theorem d_Mo_isWord_0 : decode b_Mo_isWord 0 = .ok (.iload_n 0, 1) := by decide +kernel
theorem d_Mo_isWord_1 : decode b_Mo_isWord 1 = .ok (.bipush 32, 2) := by decide +kernel
theorem d_Mo_isWord_3 : decode b_Mo_isWord 3 = .ok (.if_icmp .le 55, 3) := by decide +kernel
theorem d_Mo_isWord_6 : decode b_Mo_isWord 6 = .ok (.iload_n 0, 1) := by decide +kernel
theorem d_Mo_isWord_7 : decode b_Mo_isWord 7 = .ok (.bipush 127, 2) := by decide +kernel
theorem d_Mo_isWord_9 : decode b_Mo_isWord 9 = .ok (.if_icmp .ge 49, 3) := by decide +kernel
theorem d_Mo_isWord_12 : decode b_Mo_isWord 12 = .ok (.iload_n 0, 1) := by decide +kernel
theorem d_Mo_isWord_13 : decode b_Mo_isWord 13 = .ok (.bipush 34, 2) := by decide +kernel
theorem d_Mo_isWord_15 : decode b_Mo_isWord 15 = .ok (.if_icmp .eq 43, 3) := by decide +kernel
theorem d_Mo_isWord_18 : decode b_Mo_isWord 18 = .ok (.iload_n 0, 1) := by decide +kernel
theorem d_Mo_isWord_19 : decode b_Mo_isWord 19 = .ok (.bipush 61, 2) := by decide +kernel
theorem d_Mo_isWord_21 : decode b_Mo_isWord 21 = .ok (.if_icmp .eq 37, 3) := by decide +kernel
theorem d_Mo_isWord_24 : decode b_Mo_isWord 24 = .ok (.iload_n 0, 1) := by decide +kernel
theorem d_Mo_isWord_25 : decode b_Mo_isWord 25 = .ok (.bipush 44, 2) := by decide +kernel
theorem d_Mo_isWord_27 : decode b_Mo_isWord 27 = .ok (.if_icmp .eq 31, 3) := by decide +kernel
theorem d_Mo_isWord_30 : decode b_Mo_isWord 30 = .ok (.iload_n 0, 1) := by decide +kernel
theorem d_Mo_isWord_31 : decode b_Mo_isWord 31 = .ok (.bipush 40, 2) := by decide +kernel
theorem d_Mo_isWord_33 : decode b_Mo_isWord 33 = .ok (.if_icmp .eq 25, 3) := by decide +kernel
theorem d_Mo_isWord_36 : decode b_Mo_isWord 36 = .ok (.iload_n 0, 1) := by decide +kernel
theorem d_Mo_isWord_37 : decode b_Mo_isWord 37 = .ok (.bipush 41, 2) := by decide +kernel
theorem d_Mo_isWord_39 : decode b_Mo_isWord 39 = .ok (.if_icmp .eq 19, 3) := by decide +kernel
theorem d_Mo_isWord_42 : decode b_Mo_isWord 42 = .ok (.iload_n 0, 1) := by decide +kernel
theorem d_Mo_isWord_43 : decode b_Mo_isWord 43 = .ok (.bipush 123, 2) := by decide +kernel
theorem d_Mo_isWord_45 : decode b_Mo_isWord 45 = .ok (.if_icmp .eq 13, 3) := by decide +kernel
theorem d_Mo_isWord_48 : decode b_Mo_isWord 48 = .ok (.iload_n 0, 1) := by decide +kernel
theorem d_Mo_isWord_49 : decode b_Mo_isWord 49 = .ok (.bipush 125, 2) := by decide +kernel
theorem d_Mo_isWord_51 : decode b_Mo_isWord 51 = .ok (.if_icmp .eq 7, 3) := by decide +kernel
theorem d_Mo_isWord_54 : decode b_Mo_isWord 54 = .ok (.iconst 1, 1) := by decide +kernel
theorem d_Mo_isWord_55 : decode b_Mo_isWord 55 = .ok (.goto 4, 3) := by decide +kernel
theorem d_Mo_isWord_58 : decode b_Mo_isWord 58 = .ok (.iconst 0, 1) := by decide +kernel
theorem d_Mo_isWord_59 : decode b_Mo_isWord 59 = .ok (.ireturn, 1) := by decide +kernel
theorem d_Mo_flaw_0 : decode b_Mo_flaw 0 = .ok (.aload_n 0, 1) := by decide +kernel
theorem d_Mo_flaw_1 : decode b_Mo_flaw 1 = .ok (.getfield 108, 3) := by decide +kernel
theorem d_Mo_flaw_4 : decode b_Mo_flaw 4 = .ok (.ifCond .ne 13, 3) := by decide +kernel
theorem d_Mo_flaw_7 : decode b_Mo_flaw 7 = .ok (.aload_n 0, 1) := by decide +kernel
theorem d_Mo_flaw_8 : decode b_Mo_flaw 8 = .ok (.iload_n 1, 1) := by decide +kernel
theorem d_Mo_flaw_9 : decode b_Mo_flaw 9 = .ok (.putfield 108, 3) := by decide +kernel
theorem d_Mo_flaw_12 : decode b_Mo_flaw 12 = .ok (.aload_n 0, 1) := by decide +kernel
theorem d_Mo_flaw_13 : decode b_Mo_flaw 13 = .ok (.iload_n 2, 1) := by decide +kernel
theorem d_Mo_flaw_14 : decode b_Mo_flaw 14 = .ok (.putfield 111, 3) := by decide +kernel
theorem d_Mo_flaw_17 : decode b_Mo_flaw 17 = .ok (.iconst 0, 1) := by decide +kernel
theorem d_Mo_flaw_18 : decode b_Mo_flaw 18 = .ok (.ireturn, 1) := by decide +kernel
theorem d_Mo_wordLength_0 : decode b_Mo_wordLength 0 = .ok (.iconst 0, 1) := by decide +kernel
theorem d_Mo_wordLength_1 : decode b_Mo_wordLength 1 = .ok (.istore_n 2, 1) := by decide +kernel
theorem d_Mo_wordLength_2 : decode b_Mo_wordLength 2 = .ok (.iload_n 1, 1) := by decide +kernel
theorem d_Mo_wordLength_3 : decode b_Mo_wordLength 3 = .ok (.iload_n 2, 1) := by decide +kernel
theorem d_Mo_wordLength_4 : decode b_Mo_wordLength 4 = .ok (.iadd, 1) := by decide +kernel
theorem d_Mo_wordLength_5 : decode b_Mo_wordLength 5 = .ok (.aload_n 0, 1) := by decide +kernel
theorem d_Mo_wordLength_6 : decode b_Mo_wordLength 6 = .ok (.getfield 105, 3) := by decide +kernel
theorem d_Mo_wordLength_9 : decode b_Mo_wordLength 9 = .ok (.if_icmp .ge 29, 3) := by decide +kernel
theorem d_Mo_wordLength_12 : decode b_Mo_wordLength 12 = .ok (.iload_n 2, 1) := by decide +kernel
theorem d_Mo_wordLength_13 : decode b_Mo_wordLength 13 = .ok (.bipush 25, 2) := by decide +kernel
theorem d_Mo_wordLength_15 : decode b_Mo_wordLength 15 = .ok (.if_icmp .ge 23, 3) := by decide +kernel
theorem d_Mo_wordLength_18 : decode b_Mo_wordLength 18 = .ok (.aload_n 0, 1) := by decide +kernel
theorem d_Mo_wordLength_19 : decode b_Mo_wordLength 19 = .ok (.getfield 8, 3) := by decide +kernel
theorem d_Mo_wordLength_22 : decode b_Mo_wordLength 22 = .ok (.iload_n 1, 1) := by decide +kernel
theorem d_Mo_wordLength_23 : decode b_Mo_wordLength 23 = .ok (.iload_n 2, 1) := by decide +kernel
theorem d_Mo_wordLength_24 : decode b_Mo_wordLength 24 = .ok (.iadd, 1) := by decide +kernel
theorem d_Mo_wordLength_25 : decode b_Mo_wordLength 25 = .ok (.baload, 1) := by decide +kernel
theorem d_Mo_wordLength_26 : decode b_Mo_wordLength 26 = .ok (.invokestatic 114, 3) := by decide +kernel
theorem d_Mo_wordLength_29 : decode b_Mo_wordLength 29 = .ok (.ifCond .eq 9, 3) := by decide +kernel
theorem d_Mo_wordLength_32 : decode b_Mo_wordLength 32 = .ok (.iinc 2 1, 3) := by decide +kernel
theorem d_Mo_wordLength_35 : decode b_Mo_wordLength 35 = .ok (.goto (-33), 3) := by decide +kernel
theorem d_Mo_wordLength_38 : decode b_Mo_wordLength 38 = .ok (.iload_n 2, 1) := by decide +kernel
theorem d_Mo_wordLength_39 : decode b_Mo_wordLength 39 = .ok (.ireturn, 1) := by decide +kernel
theorem d_Mo_compare_0 : decode b_Mo_compare 0 = .ok (.iconst 0, 1) := by decide +kernel
theorem d_Mo_compare_1 : decode b_Mo_compare 1 = .ok (.istore 5, 2) := by decide +kernel
theorem d_Mo_compare_3 : decode b_Mo_compare 3 = .ok (.iload 5, 2) := by decide +kernel
theorem d_Mo_compare_5 : decode b_Mo_compare 5 = .ok (.iload_n 2, 1) := by decide +kernel
theorem d_Mo_compare_6 : decode b_Mo_compare 6 = .ok (.if_icmp .ge 57, 3) := by decide +kernel
theorem d_Mo_compare_9 : decode b_Mo_compare 9 = .ok (.iload 5, 2) := by decide +kernel
theorem d_Mo_compare_11 : decode b_Mo_compare 11 = .ok (.iload 4, 2) := by decide +kernel
theorem d_Mo_compare_13 : decode b_Mo_compare 13 = .ok (.if_icmp .ge 50, 3) := by decide +kernel
theorem d_Mo_compare_16 : decode b_Mo_compare 16 = .ok (.aload_n 0, 1) := by decide +kernel
theorem d_Mo_compare_17 : decode b_Mo_compare 17 = .ok (.getfield 8, 3) := by decide +kernel
theorem d_Mo_compare_20 : decode b_Mo_compare 20 = .ok (.iload_n 1, 1) := by decide +kernel
theorem d_Mo_compare_21 : decode b_Mo_compare 21 = .ok (.iload 5, 2) := by decide +kernel
theorem d_Mo_compare_23 : decode b_Mo_compare 23 = .ok (.iadd, 1) := by decide +kernel
theorem d_Mo_compare_24 : decode b_Mo_compare 24 = .ok (.baload, 1) := by decide +kernel
theorem d_Mo_compare_25 : decode b_Mo_compare 25 = .ok (.aload_n 0, 1) := by decide +kernel
theorem d_Mo_compare_26 : decode b_Mo_compare 26 = .ok (.getfield 8, 3) := by decide +kernel
theorem d_Mo_compare_29 : decode b_Mo_compare 29 = .ok (.iload_n 3, 1) := by decide +kernel
theorem d_Mo_compare_30 : decode b_Mo_compare 30 = .ok (.iload 5, 2) := by decide +kernel
theorem d_Mo_compare_32 : decode b_Mo_compare 32 = .ok (.iadd, 1) := by decide +kernel
theorem d_Mo_compare_33 : decode b_Mo_compare 33 = .ok (.baload, 1) := by decide +kernel
theorem d_Mo_compare_34 : decode b_Mo_compare 34 = .ok (.if_icmp .eq 23, 3) := by decide +kernel
theorem d_Mo_compare_37 : decode b_Mo_compare 37 = .ok (.aload_n 0, 1) := by decide +kernel
theorem d_Mo_compare_38 : decode b_Mo_compare 38 = .ok (.getfield 8, 3) := by decide +kernel
theorem d_Mo_compare_41 : decode b_Mo_compare 41 = .ok (.iload_n 1, 1) := by decide +kernel
theorem d_Mo_compare_42 : decode b_Mo_compare 42 = .ok (.iload 5, 2) := by decide +kernel
theorem d_Mo_compare_44 : decode b_Mo_compare 44 = .ok (.iadd, 1) := by decide +kernel
theorem d_Mo_compare_45 : decode b_Mo_compare 45 = .ok (.baload, 1) := by decide +kernel
theorem d_Mo_compare_46 : decode b_Mo_compare 46 = .ok (.aload_n 0, 1) := by decide +kernel
theorem d_Mo_compare_47 : decode b_Mo_compare 47 = .ok (.getfield 8, 3) := by decide +kernel
theorem d_Mo_compare_50 : decode b_Mo_compare 50 = .ok (.iload_n 3, 1) := by decide +kernel
theorem d_Mo_compare_51 : decode b_Mo_compare 51 = .ok (.iload 5, 2) := by decide +kernel
theorem d_Mo_compare_53 : decode b_Mo_compare 53 = .ok (.iadd, 1) := by decide +kernel
theorem d_Mo_compare_54 : decode b_Mo_compare 54 = .ok (.baload, 1) := by decide +kernel
theorem d_Mo_compare_55 : decode b_Mo_compare 55 = .ok (.isub, 1) := by decide +kernel
theorem d_Mo_compare_56 : decode b_Mo_compare 56 = .ok (.ireturn, 1) := by decide +kernel
theorem d_Mo_compare_57 : decode b_Mo_compare 57 = .ok (.iinc 5 1, 3) := by decide +kernel
theorem d_Mo_compare_60 : decode b_Mo_compare 60 = .ok (.goto (-57), 3) := by decide +kernel
theorem d_Mo_compare_63 : decode b_Mo_compare 63 = .ok (.iload_n 2, 1) := by decide +kernel
theorem d_Mo_compare_64 : decode b_Mo_compare 64 = .ok (.iload 4, 2) := by decide +kernel
theorem d_Mo_compare_66 : decode b_Mo_compare 66 = .ok (.isub, 1) := by decide +kernel
theorem d_Mo_compare_67 : decode b_Mo_compare 67 = .ok (.ireturn, 1) := by decide +kernel
theorem d_Mo_readLabels_0 : decode b_Mo_readLabels 0 = .ok (.aload_n 0, 1) := by decide +kernel
theorem d_Mo_readLabels_1 : decode b_Mo_readLabels 1 = .ok (.iconst 0, 1) := by decide +kernel
theorem d_Mo_readLabels_2 : decode b_Mo_readLabels 2 = .ok (.putfield 118, 3) := by decide +kernel
theorem d_Mo_readLabels_5 : decode b_Mo_readLabels 5 = .ok (.iconst 0, 1) := by decide +kernel
theorem d_Mo_readLabels_6 : decode b_Mo_readLabels 6 = .ok (.istore_n 1, 1) := by decide +kernel
theorem d_Mo_readLabels_7 : decode b_Mo_readLabels 7 = .ok (.aload_n 0, 1) := by decide +kernel
theorem d_Mo_readLabels_8 : decode b_Mo_readLabels 8 = .ok (.iload_n 1, 1) := by decide +kernel
theorem d_Mo_readLabels_9 : decode b_Mo_readLabels 9 = .ok (.invokevirtual 121, 3) := by decide +kernel
theorem d_Mo_readLabels_12 : decode b_Mo_readLabels 12 = .ok (.istore_n 2, 1) := by decide +kernel
theorem d_Mo_readLabels_13 : decode b_Mo_readLabels 13 = .ok (.iload_n 2, 1) := by decide +kernel
theorem d_Mo_readLabels_14 : decode b_Mo_readLabels 14 = .ok (.ifCond .eq 9, 3) := by decide +kernel
theorem d_Mo_readLabels_17 : decode b_Mo_readLabels 17 = .ok (.iload_n 2, 1) := by decide +kernel
theorem d_Mo_readLabels_18 : decode b_Mo_readLabels 18 = .ok (.bipush 24, 2) := by decide +kernel
theorem d_Mo_readLabels_20 : decode b_Mo_readLabels 20 = .ok (.if_icmp .le 24, 3) := by decide +kernel
theorem d_Mo_readLabels_23 : decode b_Mo_readLabels 23 = .ok (.aload_n 0, 1) := by decide +kernel
theorem d_Mo_readLabels_24 : decode b_Mo_readLabels 24 = .ok (.bipush 7, 2) := by decide +kernel
theorem d_Mo_readLabels_26 : decode b_Mo_readLabels 26 = .ok (.iload_n 1, 1) := by decide +kernel
theorem d_Mo_readLabels_27 : decode b_Mo_readLabels 27 = .ok (.iload_n 2, 1) := by decide +kernel
theorem d_Mo_readLabels_28 : decode b_Mo_readLabels 28 = .ok (.bipush 24, 2) := by decide +kernel
theorem d_Mo_readLabels_30 : decode b_Mo_readLabels 30 = .ok (.if_icmp .le 8, 3) := by decide +kernel
theorem d_Mo_readLabels_33 : decode b_Mo_readLabels 33 = .ok (.bipush 24, 2) := by decide +kernel
theorem d_Mo_readLabels_35 : decode b_Mo_readLabels 35 = .ok (.goto 4, 3) := by decide +kernel
theorem d_Mo_readLabels_38 : decode b_Mo_readLabels 38 = .ok (.iconst 0, 1) := by decide +kernel
theorem d_Mo_readLabels_39 : decode b_Mo_readLabels 39 = .ok (.iadd, 1) := by decide +kernel
theorem d_Mo_readLabels_40 : decode b_Mo_readLabels 40 = .ok (.invokevirtual 125, 3) := by decide +kernel
theorem d_Mo_readLabels_43 : decode b_Mo_readLabels 43 = .ok (.ireturn, 1) := by decide +kernel
theorem d_Mo_readLabels_44 : decode b_Mo_readLabels 44 = .ok (.iload_n 1, 1) := by decide +kernel
theorem d_Mo_readLabels_45 : decode b_Mo_readLabels 45 = .ok (.iload_n 2, 1) := by decide +kernel
theorem d_Mo_readLabels_46 : decode b_Mo_readLabels 46 = .ok (.iadd, 1) := by decide +kernel
theorem d_Mo_readLabels_47 : decode b_Mo_readLabels 47 = .ok (.aload_n 0, 1) := by decide +kernel
theorem d_Mo_readLabels_48 : decode b_Mo_readLabels 48 = .ok (.getfield 105, 3) := by decide +kernel
theorem d_Mo_readLabels_51 : decode b_Mo_readLabels 51 = .ok (.if_icmp .ge 16, 3) := by decide +kernel
theorem d_Mo_readLabels_54 : decode b_Mo_readLabels 54 = .ok (.aload_n 0, 1) := by decide +kernel
theorem d_Mo_readLabels_55 : decode b_Mo_readLabels 55 = .ok (.getfield 8, 3) := by decide +kernel
theorem d_Mo_readLabels_58 : decode b_Mo_readLabels 58 = .ok (.iload_n 1, 1) := by decide +kernel
theorem d_Mo_readLabels_59 : decode b_Mo_readLabels 59 = .ok (.iload_n 2, 1) := by decide +kernel
theorem d_Mo_readLabels_60 : decode b_Mo_readLabels 60 = .ok (.iadd, 1) := by decide +kernel
theorem d_Mo_readLabels_61 : decode b_Mo_readLabels 61 = .ok (.baload, 1) := by decide +kernel
theorem d_Mo_readLabels_62 : decode b_Mo_readLabels 62 = .ok (.bipush 61, 2) := by decide +kernel
theorem d_Mo_readLabels_64 : decode b_Mo_readLabels 64 = .ok (.if_icmp .eq 13, 3) := by decide +kernel
theorem d_Mo_readLabels_67 : decode b_Mo_readLabels 67 = .ok (.aload_n 0, 1) := by decide +kernel
theorem d_Mo_readLabels_68 : decode b_Mo_readLabels 68 = .ok (.bipush 7, 2) := by decide +kernel
theorem d_Mo_readLabels_70 : decode b_Mo_readLabels 70 = .ok (.iload_n 1, 1) := by decide +kernel
theorem d_Mo_readLabels_71 : decode b_Mo_readLabels 71 = .ok (.iload_n 2, 1) := by decide +kernel
theorem d_Mo_readLabels_72 : decode b_Mo_readLabels 72 = .ok (.iadd, 1) := by decide +kernel
theorem d_Mo_readLabels_73 : decode b_Mo_readLabels 73 = .ok (.invokevirtual 125, 3) := by decide +kernel
theorem d_Mo_readLabels_76 : decode b_Mo_readLabels 76 = .ok (.ireturn, 1) := by decide +kernel
theorem d_Mo_readLabels_77 : decode b_Mo_readLabels 77 = .ok (.aload_n 0, 1) := by decide +kernel
theorem d_Mo_readLabels_78 : decode b_Mo_readLabels 78 = .ok (.getfield 118, 3) := by decide +kernel
theorem d_Mo_readLabels_81 : decode b_Mo_readLabels 81 = .ok (.bipush 6, 2) := by decide +kernel
theorem d_Mo_readLabels_83 : decode b_Mo_readLabels 83 = .ok (.if_icmp .ne 7, 3) := by decide +kernel
theorem d_Mo_readLabels_86 : decode b_Mo_readLabels 86 = .ok (.iconst 1, 1) := by decide +kernel
theorem d_Mo_readLabels_87 : decode b_Mo_readLabels 87 = .ok (.goto 4, 3) := by decide +kernel
theorem d_Mo_readLabels_90 : decode b_Mo_readLabels 90 = .ok (.iconst 0, 1) := by decide +kernel
theorem d_Mo_readLabels_91 : decode b_Mo_readLabels 91 = .ok (.istore_n 3, 1) := by decide +kernel
theorem d_Mo_readLabels_92 : decode b_Mo_readLabels 92 = .ok (.iconst 0, 1) := by decide +kernel
theorem d_Mo_readLabels_93 : decode b_Mo_readLabels 93 = .ok (.istore 4, 2) := by decide +kernel
theorem d_Mo_readLabels_95 : decode b_Mo_readLabels 95 = .ok (.iload 4, 2) := by decide +kernel
theorem d_Mo_readLabels_97 : decode b_Mo_readLabels 97 = .ok (.aload_n 0, 1) := by decide +kernel
theorem d_Mo_readLabels_98 : decode b_Mo_readLabels 98 = .ok (.getfield 118, 3) := by decide +kernel
theorem d_Mo_readLabels_101 : decode b_Mo_readLabels 101 = .ok (.if_icmp .ge 48, 3) := by decide +kernel
theorem d_Mo_readLabels_104 : decode b_Mo_readLabels 104 = .ok (.iload_n 3, 1) := by decide +kernel
theorem d_Mo_readLabels_105 : decode b_Mo_readLabels 105 = .ok (.ifCond .ne 32, 3) := by decide +kernel
theorem d_Mo_readLabels_108 : decode b_Mo_readLabels 108 = .ok (.aload_n 0, 1) := by decide +kernel
theorem d_Mo_readLabels_109 : decode b_Mo_readLabels 109 = .ok (.aload_n 0, 1) := by decide +kernel
theorem d_Mo_readLabels_110 : decode b_Mo_readLabels 110 = .ok (.getfield 38, 3) := by decide +kernel
theorem d_Mo_readLabels_113 : decode b_Mo_readLabels 113 = .ok (.iconst 4, 1) := by decide +kernel
theorem d_Mo_readLabels_114 : decode b_Mo_readLabels 114 = .ok (.iload 4, 2) := by decide +kernel
theorem d_Mo_readLabels_116 : decode b_Mo_readLabels 116 = .ok (.imul, 1) := by decide +kernel
theorem d_Mo_readLabels_117 : decode b_Mo_readLabels 117 = .ok (.iaload, 1) := by decide +kernel
theorem d_Mo_readLabels_118 : decode b_Mo_readLabels 118 = .ok (.aload_n 0, 1) := by decide +kernel
theorem d_Mo_readLabels_119 : decode b_Mo_readLabels 119 = .ok (.getfield 38, 3) := by decide +kernel
theorem d_Mo_readLabels_122 : decode b_Mo_readLabels 122 = .ok (.iconst 4, 1) := by decide +kernel
theorem d_Mo_readLabels_123 : decode b_Mo_readLabels 123 = .ok (.iload 4, 2) := by decide +kernel
theorem d_Mo_readLabels_125 : decode b_Mo_readLabels 125 = .ok (.imul, 1) := by decide +kernel
theorem d_Mo_readLabels_126 : decode b_Mo_readLabels 126 = .ok (.iconst 1, 1) := by decide +kernel
theorem d_Mo_readLabels_127 : decode b_Mo_readLabels 127 = .ok (.iadd, 1) := by decide +kernel
theorem d_Mo_readLabels_128 : decode b_Mo_readLabels 128 = .ok (.iaload, 1) := by decide +kernel
theorem d_Mo_readLabels_129 : decode b_Mo_readLabels 129 = .ok (.iload_n 1, 1) := by decide +kernel
theorem d_Mo_readLabels_130 : decode b_Mo_readLabels 130 = .ok (.iload_n 2, 1) := by decide +kernel
theorem d_Mo_readLabels_131 : decode b_Mo_readLabels 131 = .ok (.invokevirtual 129, 3) := by decide +kernel
theorem d_Mo_readLabels_134 : decode b_Mo_readLabels 134 = .ok (.ifCond .ne 7, 3) := by decide +kernel
theorem d_Mo_readLabels_137 : decode b_Mo_readLabels 137 = .ok (.iconst 1, 1) := by decide +kernel
theorem d_Mo_readLabels_138 : decode b_Mo_readLabels 138 = .ok (.goto 4, 3) := by decide +kernel
theorem d_Mo_readLabels_141 : decode b_Mo_readLabels 141 = .ok (.iconst 0, 1) := by decide +kernel
theorem d_Mo_readLabels_142 : decode b_Mo_readLabels 142 = .ok (.istore_n 3, 1) := by decide +kernel
theorem d_Mo_readLabels_143 : decode b_Mo_readLabels 143 = .ok (.iinc 4 1, 3) := by decide +kernel
theorem d_Mo_readLabels_146 : decode b_Mo_readLabels 146 = .ok (.goto (-51), 3) := by decide +kernel
theorem d_Mo_readLabels_149 : decode b_Mo_readLabels 149 = .ok (.iload_n 3, 1) := by decide +kernel
theorem d_Mo_readLabels_150 : decode b_Mo_readLabels 150 = .ok (.ifCond .eq 11, 3) := by decide +kernel
theorem d_Mo_readLabels_153 : decode b_Mo_readLabels 153 = .ok (.aload_n 0, 1) := by decide +kernel
theorem d_Mo_readLabels_154 : decode b_Mo_readLabels 154 = .ok (.bipush 8, 2) := by decide +kernel
theorem d_Mo_readLabels_156 : decode b_Mo_readLabels 156 = .ok (.iload_n 1, 1) := by decide +kernel
theorem d_Mo_readLabels_157 : decode b_Mo_readLabels 157 = .ok (.invokevirtual 125, 3) := by decide +kernel
theorem d_Mo_readLabels_160 : decode b_Mo_readLabels 160 = .ok (.ireturn, 1) := by decide +kernel
theorem d_Mo_readLabels_161 : decode b_Mo_readLabels 161 = .ok (.iload_n 1, 1) := by decide +kernel
theorem d_Mo_readLabels_162 : decode b_Mo_readLabels 162 = .ok (.iload_n 2, 1) := by decide +kernel
theorem d_Mo_readLabels_163 : decode b_Mo_readLabels 163 = .ok (.iadd, 1) := by decide +kernel
theorem d_Mo_readLabels_164 : decode b_Mo_readLabels 164 = .ok (.iconst 1, 1) := by decide +kernel
theorem d_Mo_readLabels_165 : decode b_Mo_readLabels 165 = .ok (.iadd, 1) := by decide +kernel
theorem d_Mo_readLabels_166 : decode b_Mo_readLabels 166 = .ok (.istore 4, 2) := by decide +kernel
theorem d_Mo_readLabels_168 : decode b_Mo_readLabels 168 = .ok (.aload_n 0, 1) := by decide +kernel
theorem d_Mo_readLabels_169 : decode b_Mo_readLabels 169 = .ok (.iload 4, 2) := by decide +kernel
theorem d_Mo_readLabels_171 : decode b_Mo_readLabels 171 = .ok (.invokevirtual 121, 3) := by decide +kernel
theorem d_Mo_readLabels_174 : decode b_Mo_readLabels 174 = .ok (.istore 5, 2) := by decide +kernel
theorem d_Mo_readLabels_176 : decode b_Mo_readLabels 176 = .ok (.iload 5, 2) := by decide +kernel
theorem d_Mo_readLabels_178 : decode b_Mo_readLabels 178 = .ok (.ifCond .eq 10, 3) := by decide +kernel
theorem d_Mo_readLabels_181 : decode b_Mo_readLabels 181 = .ok (.iload 5, 2) := by decide +kernel
theorem d_Mo_readLabels_183 : decode b_Mo_readLabels 183 = .ok (.bipush 24, 2) := by decide +kernel
theorem d_Mo_readLabels_185 : decode b_Mo_readLabels 185 = .ok (.if_icmp .le 26, 3) := by decide +kernel
theorem d_Mo_readLabels_188 : decode b_Mo_readLabels 188 = .ok (.aload_n 0, 1) := by decide +kernel
theorem d_Mo_readLabels_189 : decode b_Mo_readLabels 189 = .ok (.bipush 7, 2) := by decide +kernel
theorem d_Mo_readLabels_191 : decode b_Mo_readLabels 191 = .ok (.iload 4, 2) := by decide +kernel
theorem d_Mo_readLabels_193 : decode b_Mo_readLabels 193 = .ok (.iload 5, 2) := by decide +kernel
theorem d_Mo_readLabels_195 : decode b_Mo_readLabels 195 = .ok (.bipush 24, 2) := by decide +kernel
theorem d_Mo_readLabels_197 : decode b_Mo_readLabels 197 = .ok (.if_icmp .le 8, 3) := by decide +kernel
theorem d_Mo_readLabels_200 : decode b_Mo_readLabels 200 = .ok (.bipush 24, 2) := by decide +kernel
theorem d_Mo_readLabels_202 : decode b_Mo_readLabels 202 = .ok (.goto 4, 3) := by decide +kernel
theorem d_Mo_readLabels_205 : decode b_Mo_readLabels 205 = .ok (.iconst 0, 1) := by decide +kernel
theorem d_Mo_readLabels_206 : decode b_Mo_readLabels 206 = .ok (.iadd, 1) := by decide +kernel
theorem d_Mo_readLabels_207 : decode b_Mo_readLabels 207 = .ok (.invokevirtual 125, 3) := by decide +kernel
theorem d_Mo_readLabels_210 : decode b_Mo_readLabels 210 = .ok (.ireturn, 1) := by decide +kernel
theorem d_Mo_readLabels_211 : decode b_Mo_readLabels 211 = .ok (.aload_n 0, 1) := by decide +kernel
theorem d_Mo_readLabels_212 : decode b_Mo_readLabels 212 = .ok (.getfield 38, 3) := by decide +kernel
theorem d_Mo_readLabels_215 : decode b_Mo_readLabels 215 = .ok (.iconst 4, 1) := by decide +kernel
theorem d_Mo_readLabels_216 : decode b_Mo_readLabels 216 = .ok (.aload_n 0, 1) := by decide +kernel
theorem d_Mo_readLabels_217 : decode b_Mo_readLabels 217 = .ok (.getfield 118, 3) := by decide +kernel
theorem d_Mo_readLabels_220 : decode b_Mo_readLabels 220 = .ok (.imul, 1) := by decide +kernel
theorem d_Mo_readLabels_221 : decode b_Mo_readLabels 221 = .ok (.iload_n 1, 1) := by decide +kernel
theorem d_Mo_readLabels_222 : decode b_Mo_readLabels 222 = .ok (.iastore, 1) := by decide +kernel
theorem d_Mo_readLabels_223 : decode b_Mo_readLabels 223 = .ok (.aload_n 0, 1) := by decide +kernel
theorem d_Mo_readLabels_224 : decode b_Mo_readLabels 224 = .ok (.getfield 38, 3) := by decide +kernel
theorem d_Mo_readLabels_227 : decode b_Mo_readLabels 227 = .ok (.iconst 4, 1) := by decide +kernel
theorem d_Mo_readLabels_228 : decode b_Mo_readLabels 228 = .ok (.aload_n 0, 1) := by decide +kernel
theorem d_Mo_readLabels_229 : decode b_Mo_readLabels 229 = .ok (.getfield 118, 3) := by decide +kernel
theorem d_Mo_readLabels_232 : decode b_Mo_readLabels 232 = .ok (.imul, 1) := by decide +kernel
theorem d_Mo_readLabels_233 : decode b_Mo_readLabels 233 = .ok (.iconst 1, 1) := by decide +kernel
theorem d_Mo_readLabels_234 : decode b_Mo_readLabels 234 = .ok (.iadd, 1) := by decide +kernel
theorem d_Mo_readLabels_235 : decode b_Mo_readLabels 235 = .ok (.iload_n 2, 1) := by decide +kernel
theorem d_Mo_readLabels_236 : decode b_Mo_readLabels 236 = .ok (.iastore, 1) := by decide +kernel
theorem d_Mo_readLabels_237 : decode b_Mo_readLabels 237 = .ok (.aload_n 0, 1) := by decide +kernel
theorem d_Mo_readLabels_238 : decode b_Mo_readLabels 238 = .ok (.getfield 38, 3) := by decide +kernel
theorem d_Mo_readLabels_241 : decode b_Mo_readLabels 241 = .ok (.iconst 4, 1) := by decide +kernel
theorem d_Mo_readLabels_242 : decode b_Mo_readLabels 242 = .ok (.aload_n 0, 1) := by decide +kernel
theorem d_Mo_readLabels_243 : decode b_Mo_readLabels 243 = .ok (.getfield 118, 3) := by decide +kernel
theorem d_Mo_readLabels_246 : decode b_Mo_readLabels 246 = .ok (.imul, 1) := by decide +kernel
theorem d_Mo_readLabels_247 : decode b_Mo_readLabels 247 = .ok (.iconst 2, 1) := by decide +kernel
theorem d_Mo_readLabels_248 : decode b_Mo_readLabels 248 = .ok (.iadd, 1) := by decide +kernel
theorem d_Mo_readLabels_249 : decode b_Mo_readLabels 249 = .ok (.iload 4, 2) := by decide +kernel
theorem d_Mo_readLabels_251 : decode b_Mo_readLabels 251 = .ok (.iastore, 1) := by decide +kernel
theorem d_Mo_readLabels_252 : decode b_Mo_readLabels 252 = .ok (.aload_n 0, 1) := by decide +kernel
theorem d_Mo_readLabels_253 : decode b_Mo_readLabels 253 = .ok (.getfield 38, 3) := by decide +kernel
theorem d_Mo_readLabels_256 : decode b_Mo_readLabels 256 = .ok (.iconst 4, 1) := by decide +kernel
theorem d_Mo_readLabels_257 : decode b_Mo_readLabels 257 = .ok (.aload_n 0, 1) := by decide +kernel
theorem d_Mo_readLabels_258 : decode b_Mo_readLabels 258 = .ok (.getfield 118, 3) := by decide +kernel
theorem d_Mo_readLabels_261 : decode b_Mo_readLabels 261 = .ok (.imul, 1) := by decide +kernel
theorem d_Mo_readLabels_262 : decode b_Mo_readLabels 262 = .ok (.iconst 3, 1) := by decide +kernel
theorem d_Mo_readLabels_263 : decode b_Mo_readLabels 263 = .ok (.iadd, 1) := by decide +kernel
theorem d_Mo_readLabels_264 : decode b_Mo_readLabels 264 = .ok (.iload 5, 2) := by decide +kernel
theorem d_Mo_readLabels_266 : decode b_Mo_readLabels 266 = .ok (.iastore, 1) := by decide +kernel
theorem d_Mo_readLabels_267 : decode b_Mo_readLabels 267 = .ok (.aload_n 0, 1) := by decide +kernel
theorem d_Mo_readLabels_268 : decode b_Mo_readLabels 268 = .ok (.dup, 1) := by decide +kernel
theorem d_Mo_readLabels_269 : decode b_Mo_readLabels 269 = .ok (.getfield 118, 3) := by decide +kernel
theorem d_Mo_readLabels_272 : decode b_Mo_readLabels 272 = .ok (.iconst 1, 1) := by decide +kernel
theorem d_Mo_readLabels_273 : decode b_Mo_readLabels 273 = .ok (.iadd, 1) := by decide +kernel
theorem d_Mo_readLabels_274 : decode b_Mo_readLabels 274 = .ok (.putfield 118, 3) := by decide +kernel
theorem d_Mo_readLabels_277 : decode b_Mo_readLabels 277 = .ok (.iload 4, 2) := by decide +kernel
theorem d_Mo_readLabels_279 : decode b_Mo_readLabels 279 = .ok (.iload 5, 2) := by decide +kernel
theorem d_Mo_readLabels_281 : decode b_Mo_readLabels 281 = .ok (.iadd, 1) := by decide +kernel
theorem d_Mo_readLabels_282 : decode b_Mo_readLabels 282 = .ok (.istore_n 1, 1) := by decide +kernel
theorem d_Mo_readLabels_283 : decode b_Mo_readLabels 283 = .ok (.iload_n 1, 1) := by decide +kernel
theorem d_Mo_readLabels_284 : decode b_Mo_readLabels 284 = .ok (.aload_n 0, 1) := by decide +kernel
theorem d_Mo_readLabels_285 : decode b_Mo_readLabels 285 = .ok (.getfield 105, 3) := by decide +kernel
theorem d_Mo_readLabels_288 : decode b_Mo_readLabels 288 = .ok (.if_icmp .ne 5, 3) := by decide +kernel
theorem d_Mo_readLabels_291 : decode b_Mo_readLabels 291 = .ok (.iconst 1, 1) := by decide +kernel
theorem d_Mo_readLabels_292 : decode b_Mo_readLabels 292 = .ok (.ireturn, 1) := by decide +kernel
theorem d_Mo_readLabels_293 : decode b_Mo_readLabels 293 = .ok (.aload_n 0, 1) := by decide +kernel
theorem d_Mo_readLabels_294 : decode b_Mo_readLabels 294 = .ok (.getfield 8, 3) := by decide +kernel
theorem d_Mo_readLabels_297 : decode b_Mo_readLabels 297 = .ok (.iload_n 1, 1) := by decide +kernel
theorem d_Mo_readLabels_298 : decode b_Mo_readLabels 298 = .ok (.baload, 1) := by decide +kernel
theorem d_Mo_readLabels_299 : decode b_Mo_readLabels 299 = .ok (.bipush 44, 2) := by decide +kernel
theorem d_Mo_readLabels_301 : decode b_Mo_readLabels 301 = .ok (.if_icmp .eq 11, 3) := by decide +kernel
theorem d_Mo_readLabels_304 : decode b_Mo_readLabels 304 = .ok (.aload_n 0, 1) := by decide +kernel
theorem d_Mo_readLabels_305 : decode b_Mo_readLabels 305 = .ok (.bipush 7, 2) := by decide +kernel
theorem d_Mo_readLabels_307 : decode b_Mo_readLabels 307 = .ok (.iload_n 1, 1) := by decide +kernel
theorem d_Mo_readLabels_308 : decode b_Mo_readLabels 308 = .ok (.invokevirtual 125, 3) := by decide +kernel
theorem d_Mo_readLabels_311 : decode b_Mo_readLabels 311 = .ok (.ireturn, 1) := by decide +kernel
theorem d_Mo_readLabels_312 : decode b_Mo_readLabels 312 = .ok (.iinc 1 1, 3) := by decide +kernel
theorem d_Mo_readLabels_315 : decode b_Mo_readLabels 315 = .ok (.goto (-308), 3) := by decide +kernel
theorem d_Mo_layText_0 : decode b_Mo_layText 0 = .ok (.sipush 304, 3) := by decide +kernel
theorem d_Mo_layText_3 : decode b_Mo_layText 3 = .ok (.aload_n 0, 1) := by decide +kernel
theorem d_Mo_layText_4 : decode b_Mo_layText 4 = .ok (.getfield 133, 3) := by decide +kernel
theorem d_Mo_layText_7 : decode b_Mo_layText 7 = .ok (.imul, 1) := by decide +kernel
theorem d_Mo_layText_8 : decode b_Mo_layText 8 = .ok (.istore_n 1, 1) := by decide +kernel
theorem d_Mo_layText_9 : decode b_Mo_layText 9 = .ok (.iconst 0, 1) := by decide +kernel
theorem d_Mo_layText_10 : decode b_Mo_layText 10 = .ok (.istore_n 2, 1) := by decide +kernel
theorem d_Mo_layText_11 : decode b_Mo_layText 11 = .ok (.iconst 0, 1) := by decide +kernel
theorem d_Mo_layText_12 : decode b_Mo_layText 12 = .ok (.istore_n 3, 1) := by decide +kernel
theorem d_Mo_layText_13 : decode b_Mo_layText 13 = .ok (.iload_n 3, 1) := by decide +kernel
theorem d_Mo_layText_14 : decode b_Mo_layText 14 = .ok (.aload_n 0, 1) := by decide +kernel
theorem d_Mo_layText_15 : decode b_Mo_layText 15 = .ok (.getfield 118, 3) := by decide +kernel
theorem d_Mo_layText_18 : decode b_Mo_layText 18 = .ok (.if_icmp .ge 211, 3) := by decide +kernel
theorem d_Mo_layText_21 : decode b_Mo_layText 21 = .ok (.iconst 0, 1) := by decide +kernel
theorem d_Mo_layText_22 : decode b_Mo_layText 22 = .ok (.istore 4, 2) := by decide +kernel
theorem d_Mo_layText_24 : decode b_Mo_layText 24 = .ok (.iconst 0, 1) := by decide +kernel
theorem d_Mo_layText_25 : decode b_Mo_layText 25 = .ok (.istore 5, 2) := by decide +kernel
theorem d_Mo_layText_27 : decode b_Mo_layText 27 = .ok (.iload 5, 2) := by decide +kernel
theorem d_Mo_layText_29 : decode b_Mo_layText 29 = .ok (.aload_n 0, 1) := by decide +kernel
theorem d_Mo_layText_30 : decode b_Mo_layText 30 = .ok (.getfield 118, 3) := by decide +kernel
theorem d_Mo_layText_33 : decode b_Mo_layText 33 = .ok (.if_icmp .ge 102, 3) := by decide +kernel
theorem d_Mo_layText_36 : decode b_Mo_layText 36 = .ok (.iconst 0, 1) := by decide +kernel
theorem d_Mo_layText_37 : decode b_Mo_layText 37 = .ok (.istore 6, 2) := by decide +kernel
theorem d_Mo_layText_39 : decode b_Mo_layText 39 = .ok (.iconst 0, 1) := by decide +kernel
theorem d_Mo_layText_40 : decode b_Mo_layText 40 = .ok (.istore 7, 2) := by decide +kernel
theorem d_Mo_layText_42 : decode b_Mo_layText 42 = .ok (.iload 7, 2) := by decide +kernel
theorem d_Mo_layText_44 : decode b_Mo_layText 44 = .ok (.aload_n 0, 1) := by decide +kernel
theorem d_Mo_layText_45 : decode b_Mo_layText 45 = .ok (.getfield 118, 3) := by decide +kernel
theorem d_Mo_layText_48 : decode b_Mo_layText 48 = .ok (.if_icmp .ge 66, 3) := by decide +kernel
theorem d_Mo_layText_51 : decode b_Mo_layText 51 = .ok (.iload 6, 2) := by decide +kernel
theorem d_Mo_layText_53 : decode b_Mo_layText 53 = .ok (.aload_n 0, 1) := by decide +kernel
theorem d_Mo_layText_54 : decode b_Mo_layText 54 = .ok (.aload_n 0, 1) := by decide +kernel
theorem d_Mo_layText_55 : decode b_Mo_layText 55 = .ok (.getfield 38, 3) := by decide +kernel
theorem d_Mo_layText_58 : decode b_Mo_layText 58 = .ok (.iconst 4, 1) := by decide +kernel
theorem d_Mo_layText_59 : decode b_Mo_layText 59 = .ok (.iload 7, 2) := by decide +kernel
theorem d_Mo_layText_61 : decode b_Mo_layText 61 = .ok (.imul, 1) := by decide +kernel
theorem d_Mo_layText_62 : decode b_Mo_layText 62 = .ok (.iaload, 1) := by decide +kernel
theorem d_Mo_layText_63 : decode b_Mo_layText 63 = .ok (.aload_n 0, 1) := by decide +kernel
theorem d_Mo_layText_64 : decode b_Mo_layText 64 = .ok (.getfield 38, 3) := by decide +kernel
theorem d_Mo_layText_67 : decode b_Mo_layText 67 = .ok (.iconst 4, 1) := by decide +kernel
theorem d_Mo_layText_68 : decode b_Mo_layText 68 = .ok (.iload 7, 2) := by decide +kernel
theorem d_Mo_layText_70 : decode b_Mo_layText 70 = .ok (.imul, 1) := by decide +kernel
theorem d_Mo_layText_71 : decode b_Mo_layText 71 = .ok (.iconst 1, 1) := by decide +kernel
theorem d_Mo_layText_72 : decode b_Mo_layText 72 = .ok (.iadd, 1) := by decide +kernel
theorem d_Mo_layText_73 : decode b_Mo_layText 73 = .ok (.iaload, 1) := by decide +kernel
theorem d_Mo_layText_74 : decode b_Mo_layText 74 = .ok (.aload_n 0, 1) := by decide +kernel
theorem d_Mo_layText_75 : decode b_Mo_layText 75 = .ok (.getfield 38, 3) := by decide +kernel
theorem d_Mo_layText_78 : decode b_Mo_layText 78 = .ok (.iconst 4, 1) := by decide +kernel
theorem d_Mo_layText_79 : decode b_Mo_layText 79 = .ok (.iload 5, 2) := by decide +kernel
theorem d_Mo_layText_81 : decode b_Mo_layText 81 = .ok (.imul, 1) := by decide +kernel
theorem d_Mo_layText_82 : decode b_Mo_layText 82 = .ok (.iaload, 1) := by decide +kernel
theorem d_Mo_layText_83 : decode b_Mo_layText 83 = .ok (.aload_n 0, 1) := by decide +kernel
theorem d_Mo_layText_84 : decode b_Mo_layText 84 = .ok (.getfield 38, 3) := by decide +kernel
theorem d_Mo_layText_87 : decode b_Mo_layText 87 = .ok (.iconst 4, 1) := by decide +kernel
theorem d_Mo_layText_88 : decode b_Mo_layText 88 = .ok (.iload 5, 2) := by decide +kernel
theorem d_Mo_layText_90 : decode b_Mo_layText 90 = .ok (.imul, 1) := by decide +kernel
theorem d_Mo_layText_91 : decode b_Mo_layText 91 = .ok (.iconst 1, 1) := by decide +kernel
theorem d_Mo_layText_92 : decode b_Mo_layText 92 = .ok (.iadd, 1) := by decide +kernel
theorem d_Mo_layText_93 : decode b_Mo_layText 93 = .ok (.iaload, 1) := by decide +kernel
theorem d_Mo_layText_94 : decode b_Mo_layText 94 = .ok (.invokevirtual 129, 3) := by decide +kernel
theorem d_Mo_layText_97 : decode b_Mo_layText 97 = .ok (.ifCond .ge 7, 3) := by decide +kernel
theorem d_Mo_layText_100 : decode b_Mo_layText 100 = .ok (.iconst 1, 1) := by decide +kernel
theorem d_Mo_layText_101 : decode b_Mo_layText 101 = .ok (.goto 4, 3) := by decide +kernel
theorem d_Mo_layText_104 : decode b_Mo_layText 104 = .ok (.iconst 0, 1) := by decide +kernel
theorem d_Mo_layText_105 : decode b_Mo_layText 105 = .ok (.iadd, 1) := by decide +kernel
theorem d_Mo_layText_106 : decode b_Mo_layText 106 = .ok (.istore 6, 2) := by decide +kernel
theorem d_Mo_layText_108 : decode b_Mo_layText 108 = .ok (.iinc 7 1, 3) := by decide +kernel
theorem d_Mo_layText_111 : decode b_Mo_layText 111 = .ok (.goto (-69), 3) := by decide +kernel
theorem d_Mo_layText_114 : decode b_Mo_layText 114 = .ok (.iload 6, 2) := by decide +kernel
theorem d_Mo_layText_116 : decode b_Mo_layText 116 = .ok (.iload_n 3, 1) := by decide +kernel
theorem d_Mo_layText_117 : decode b_Mo_layText 117 = .ok (.if_icmp .ne 8, 3) := by decide +kernel
theorem d_Mo_layText_120 : decode b_Mo_layText 120 = .ok (.iload 5, 2) := by decide +kernel
theorem d_Mo_layText_122 : decode b_Mo_layText 122 = .ok (.goto 5, 3) := by decide +kernel
theorem d_Mo_layText_125 : decode b_Mo_layText 125 = .ok (.iload 4, 2) := by decide +kernel
theorem d_Mo_layText_127 : decode b_Mo_layText 127 = .ok (.istore 4, 2) := by decide +kernel
theorem d_Mo_layText_129 : decode b_Mo_layText 129 = .ok (.iinc 5 1, 3) := by decide +kernel
theorem d_Mo_layText_132 : decode b_Mo_layText 132 = .ok (.goto (-105), 3) := by decide +kernel
theorem d_Mo_layText_135 : decode b_Mo_layText 135 = .ok (.iload_n 3, 1) := by decide +kernel
theorem d_Mo_layText_136 : decode b_Mo_layText 136 = .ok (.ifCond .le 16, 3) := by decide +kernel
theorem d_Mo_layText_139 : decode b_Mo_layText 139 = .ok (.aload_n 0, 1) := by decide +kernel
theorem d_Mo_layText_140 : decode b_Mo_layText 140 = .ok (.getfield 15, 3) := by decide +kernel
theorem d_Mo_layText_143 : decode b_Mo_layText 143 = .ok (.iload_n 1, 1) := by decide +kernel
theorem d_Mo_layText_144 : decode b_Mo_layText 144 = .ok (.iload_n 2, 1) := by decide +kernel
theorem d_Mo_layText_145 : decode b_Mo_layText 145 = .ok (.iadd, 1) := by decide +kernel
theorem d_Mo_layText_146 : decode b_Mo_layText 146 = .ok (.bipush 44, 2) := by decide +kernel
theorem d_Mo_layText_148 : decode b_Mo_layText 148 = .ok (.bastore, 1) := by decide +kernel
theorem d_Mo_layText_149 : decode b_Mo_layText 149 = .ok (.iinc 2 1, 3) := by decide +kernel
theorem d_Mo_layText_152 : decode b_Mo_layText 152 = .ok (.aload_n 0, 1) := by decide +kernel
theorem d_Mo_layText_153 : decode b_Mo_layText 153 = .ok (.getfield 38, 3) := by decide +kernel
theorem d_Mo_layText_156 : decode b_Mo_layText 156 = .ok (.iconst 4, 1) := by decide +kernel
theorem d_Mo_layText_157 : decode b_Mo_layText 157 = .ok (.iload 4, 2) := by decide +kernel
theorem d_Mo_layText_159 : decode b_Mo_layText 159 = .ok (.imul, 1) := by decide +kernel
theorem d_Mo_layText_160 : decode b_Mo_layText 160 = .ok (.iaload, 1) := by decide +kernel
theorem d_Mo_layText_161 : decode b_Mo_layText 161 = .ok (.istore 5, 2) := by decide +kernel
theorem d_Mo_layText_163 : decode b_Mo_layText 163 = .ok (.aload_n 0, 1) := by decide +kernel
theorem d_Mo_layText_164 : decode b_Mo_layText 164 = .ok (.getfield 38, 3) := by decide +kernel
theorem d_Mo_layText_167 : decode b_Mo_layText 167 = .ok (.iconst 4, 1) := by decide +kernel
theorem d_Mo_layText_168 : decode b_Mo_layText 168 = .ok (.iload 4, 2) := by decide +kernel
theorem d_Mo_layText_170 : decode b_Mo_layText 170 = .ok (.imul, 1) := by decide +kernel
theorem d_Mo_layText_171 : decode b_Mo_layText 171 = .ok (.iconst 2, 1) := by decide +kernel
theorem d_Mo_layText_172 : decode b_Mo_layText 172 = .ok (.iadd, 1) := by decide +kernel
theorem d_Mo_layText_173 : decode b_Mo_layText 173 = .ok (.iaload, 1) := by decide +kernel
theorem d_Mo_layText_174 : decode b_Mo_layText 174 = .ok (.aload_n 0, 1) := by decide +kernel
theorem d_Mo_layText_175 : decode b_Mo_layText 175 = .ok (.getfield 38, 3) := by decide +kernel
theorem d_Mo_layText_178 : decode b_Mo_layText 178 = .ok (.iconst 4, 1) := by decide +kernel
theorem d_Mo_layText_179 : decode b_Mo_layText 179 = .ok (.iload 4, 2) := by decide +kernel
theorem d_Mo_layText_181 : decode b_Mo_layText 181 = .ok (.imul, 1) := by decide +kernel
theorem d_Mo_layText_182 : decode b_Mo_layText 182 = .ok (.iconst 3, 1) := by decide +kernel
theorem d_Mo_layText_183 : decode b_Mo_layText 183 = .ok (.iadd, 1) := by decide +kernel
theorem d_Mo_layText_184 : decode b_Mo_layText 184 = .ok (.iaload, 1) := by decide +kernel
theorem d_Mo_layText_185 : decode b_Mo_layText 185 = .ok (.iadd, 1) := by decide +kernel
theorem d_Mo_layText_186 : decode b_Mo_layText 186 = .ok (.istore 6, 2) := by decide +kernel
theorem d_Mo_layText_188 : decode b_Mo_layText 188 = .ok (.iload 5, 2) := by decide +kernel
theorem d_Mo_layText_190 : decode b_Mo_layText 190 = .ok (.istore 7, 2) := by decide +kernel
theorem d_Mo_layText_192 : decode b_Mo_layText 192 = .ok (.iload 7, 2) := by decide +kernel
theorem d_Mo_layText_194 : decode b_Mo_layText 194 = .ok (.iload 6, 2) := by decide +kernel
theorem d_Mo_layText_196 : decode b_Mo_layText 196 = .ok (.if_icmp .ge 27, 3) := by decide +kernel
theorem d_Mo_layText_199 : decode b_Mo_layText 199 = .ok (.aload_n 0, 1) := by decide +kernel
theorem d_Mo_layText_200 : decode b_Mo_layText 200 = .ok (.getfield 15, 3) := by decide +kernel
theorem d_Mo_layText_203 : decode b_Mo_layText 203 = .ok (.iload_n 1, 1) := by decide +kernel
theorem d_Mo_layText_204 : decode b_Mo_layText 204 = .ok (.iload_n 2, 1) := by decide +kernel
theorem d_Mo_layText_205 : decode b_Mo_layText 205 = .ok (.iadd, 1) := by decide +kernel
theorem d_Mo_layText_206 : decode b_Mo_layText 206 = .ok (.aload_n 0, 1) := by decide +kernel
theorem d_Mo_layText_207 : decode b_Mo_layText 207 = .ok (.getfield 8, 3) := by decide +kernel
theorem d_Mo_layText_210 : decode b_Mo_layText 210 = .ok (.iload 7, 2) := by decide +kernel
theorem d_Mo_layText_212 : decode b_Mo_layText 212 = .ok (.baload, 1) := by decide +kernel
theorem d_Mo_layText_213 : decode b_Mo_layText 213 = .ok (.bastore, 1) := by decide +kernel
theorem d_Mo_layText_214 : decode b_Mo_layText 214 = .ok (.iinc 2 1, 3) := by decide +kernel
theorem d_Mo_layText_217 : decode b_Mo_layText 217 = .ok (.iinc 7 1, 3) := by decide +kernel
theorem d_Mo_layText_220 : decode b_Mo_layText 220 = .ok (.goto (-28), 3) := by decide +kernel
theorem d_Mo_layText_223 : decode b_Mo_layText 223 = .ok (.iinc 3 1, 3) := by decide +kernel
theorem d_Mo_layText_226 : decode b_Mo_layText 226 = .ok (.goto (-213), 3) := by decide +kernel
theorem d_Mo_layText_229 : decode b_Mo_layText 229 = .ok (.iload_n 2, 1) := by decide +kernel
theorem d_Mo_layText_230 : decode b_Mo_layText 230 = .ok (.ireturn, 1) := by decide +kernel
theorem d_Mo_find_0 : decode b_Mo_find 0 = .ok (.iconst 0, 1) := by decide +kernel
theorem d_Mo_find_1 : decode b_Mo_find 1 = .ok (.istore_n 2, 1) := by decide +kernel
theorem d_Mo_find_2 : decode b_Mo_find 2 = .ok (.iload_n 2, 1) := by decide +kernel
theorem d_Mo_find_3 : decode b_Mo_find 3 = .ok (.aload_n 0, 1) := by decide +kernel
theorem d_Mo_find_4 : decode b_Mo_find 4 = .ok (.getfield 133, 3) := by decide +kernel
theorem d_Mo_find_7 : decode b_Mo_find 7 = .ok (.if_icmp .ge 88, 3) := by decide +kernel
theorem d_Mo_find_10 : decode b_Mo_find 10 = .ok (.aload_n 0, 1) := by decide +kernel
theorem d_Mo_find_11 : decode b_Mo_find 11 = .ok (.getfield 18, 3) := by decide +kernel
theorem d_Mo_find_14 : decode b_Mo_find 14 = .ok (.iload_n 2, 1) := by decide +kernel
theorem d_Mo_find_15 : decode b_Mo_find 15 = .ok (.iaload, 1) := by decide +kernel
theorem d_Mo_find_16 : decode b_Mo_find 16 = .ok (.iload_n 1, 1) := by decide +kernel
theorem d_Mo_find_17 : decode b_Mo_find 17 = .ok (.if_icmp .ne 7, 3) := by decide +kernel
theorem d_Mo_find_20 : decode b_Mo_find 20 = .ok (.iconst 1, 1) := by decide +kernel
theorem d_Mo_find_21 : decode b_Mo_find 21 = .ok (.goto 4, 3) := by decide +kernel
theorem d_Mo_find_24 : decode b_Mo_find 24 = .ok (.iconst 0, 1) := by decide +kernel
theorem d_Mo_find_25 : decode b_Mo_find 25 = .ok (.istore_n 3, 1) := by decide +kernel
theorem d_Mo_find_26 : decode b_Mo_find 26 = .ok (.iconst 0, 1) := by decide +kernel
theorem d_Mo_find_27 : decode b_Mo_find 27 = .ok (.istore 4, 2) := by decide +kernel
theorem d_Mo_find_29 : decode b_Mo_find 29 = .ok (.iload 4, 2) := by decide +kernel
theorem d_Mo_find_31 : decode b_Mo_find 31 = .ok (.iload_n 1, 1) := by decide +kernel
theorem d_Mo_find_32 : decode b_Mo_find 32 = .ok (.if_icmp .ge 51, 3) := by decide +kernel
theorem d_Mo_find_35 : decode b_Mo_find 35 = .ok (.iload_n 3, 1) := by decide +kernel
theorem d_Mo_find_36 : decode b_Mo_find 36 = .ok (.ifCond .eq 47, 3) := by decide +kernel
theorem d_Mo_find_39 : decode b_Mo_find 39 = .ok (.aload_n 0, 1) := by decide +kernel
theorem d_Mo_find_40 : decode b_Mo_find 40 = .ok (.getfield 15, 3) := by decide +kernel
theorem d_Mo_find_43 : decode b_Mo_find 43 = .ok (.sipush 304, 3) := by decide +kernel
theorem d_Mo_find_46 : decode b_Mo_find 46 = .ok (.iload_n 2, 1) := by decide +kernel
theorem d_Mo_find_47 : decode b_Mo_find 47 = .ok (.imul, 1) := by decide +kernel
theorem d_Mo_find_48 : decode b_Mo_find 48 = .ok (.iload 4, 2) := by decide +kernel
theorem d_Mo_find_50 : decode b_Mo_find 50 = .ok (.iadd, 1) := by decide +kernel
theorem d_Mo_find_51 : decode b_Mo_find 51 = .ok (.baload, 1) := by decide +kernel
theorem d_Mo_find_52 : decode b_Mo_find 52 = .ok (.aload_n 0, 1) := by decide +kernel
theorem d_Mo_find_53 : decode b_Mo_find 53 = .ok (.getfield 15, 3) := by decide +kernel
theorem d_Mo_find_56 : decode b_Mo_find 56 = .ok (.sipush 304, 3) := by decide +kernel
theorem d_Mo_find_59 : decode b_Mo_find 59 = .ok (.aload_n 0, 1) := by decide +kernel
theorem d_Mo_find_60 : decode b_Mo_find 60 = .ok (.getfield 133, 3) := by decide +kernel
theorem d_Mo_find_63 : decode b_Mo_find 63 = .ok (.imul, 1) := by decide +kernel
theorem d_Mo_find_64 : decode b_Mo_find 64 = .ok (.iload 4, 2) := by decide +kernel
theorem d_Mo_find_66 : decode b_Mo_find 66 = .ok (.iadd, 1) := by decide +kernel
theorem d_Mo_find_67 : decode b_Mo_find 67 = .ok (.baload, 1) := by decide +kernel
theorem d_Mo_find_68 : decode b_Mo_find 68 = .ok (.if_icmp .ne 7, 3) := by decide +kernel
theorem d_Mo_find_71 : decode b_Mo_find 71 = .ok (.iconst 1, 1) := by decide +kernel
theorem d_Mo_find_72 : decode b_Mo_find 72 = .ok (.goto 4, 3) := by decide +kernel
theorem d_Mo_find_75 : decode b_Mo_find 75 = .ok (.iconst 0, 1) := by decide +kernel
theorem d_Mo_find_76 : decode b_Mo_find 76 = .ok (.istore_n 3, 1) := by decide +kernel
theorem d_Mo_find_77 : decode b_Mo_find 77 = .ok (.iinc 4 1, 3) := by decide +kernel
theorem d_Mo_find_80 : decode b_Mo_find 80 = .ok (.goto (-51), 3) := by decide +kernel
theorem d_Mo_find_83 : decode b_Mo_find 83 = .ok (.iload_n 3, 1) := by decide +kernel
theorem d_Mo_find_84 : decode b_Mo_find 84 = .ok (.ifCond .eq 5, 3) := by decide +kernel
theorem d_Mo_find_87 : decode b_Mo_find 87 = .ok (.iload_n 2, 1) := by decide +kernel
theorem d_Mo_find_88 : decode b_Mo_find 88 = .ok (.ireturn, 1) := by decide +kernel
theorem d_Mo_find_89 : decode b_Mo_find 89 = .ok (.iinc 2 1, 3) := by decide +kernel
theorem d_Mo_find_92 : decode b_Mo_find 92 = .ok (.goto (-90), 3) := by decide +kernel
theorem d_Mo_find_95 : decode b_Mo_find 95 = .ok (.iconst (-1), 1) := by decide +kernel
theorem d_Mo_find_96 : decode b_Mo_find 96 = .ok (.ireturn, 1) := by decide +kernel
theorem d_Mo_series_0 : decode b_Mo_series 0 = .ok (.aload_n 0, 1) := by decide +kernel
theorem d_Mo_series_1 : decode b_Mo_series 1 = .ok (.iconst 0, 1) := by decide +kernel
theorem d_Mo_series_2 : decode b_Mo_series 2 = .ok (.putfield 101, 3) := by decide +kernel
theorem d_Mo_series_5 : decode b_Mo_series 5 = .ok (.aload_n 0, 1) := by decide +kernel
theorem d_Mo_series_6 : decode b_Mo_series 6 = .ok (.getfield 108, 3) := by decide +kernel
theorem d_Mo_series_9 : decode b_Mo_series 9 = .ok (.istore_n 1, 1) := by decide +kernel
theorem d_Mo_series_10 : decode b_Mo_series 10 = .ok (.aload_n 0, 1) := by decide +kernel
theorem d_Mo_series_11 : decode b_Mo_series 11 = .ok (.getfield 111, 3) := by decide +kernel
theorem d_Mo_series_14 : decode b_Mo_series 14 = .ok (.istore_n 2, 1) := by decide +kernel
theorem d_Mo_series_15 : decode b_Mo_series 15 = .ok (.aload_n 0, 1) := by decide +kernel
theorem d_Mo_series_16 : decode b_Mo_series 16 = .ok (.iconst 0, 1) := by decide +kernel
theorem d_Mo_series_17 : decode b_Mo_series 17 = .ok (.putfield 108, 3) := by decide +kernel
theorem d_Mo_series_20 : decode b_Mo_series 20 = .ok (.aload_n 0, 1) := by decide +kernel
theorem d_Mo_series_21 : decode b_Mo_series 21 = .ok (.iconst 0, 1) := by decide +kernel
theorem d_Mo_series_22 : decode b_Mo_series 22 = .ok (.putfield 111, 3) := by decide +kernel
theorem d_Mo_series_25 : decode b_Mo_series 25 = .ok (.aload_n 0, 1) := by decide +kernel
theorem d_Mo_series_26 : decode b_Mo_series 26 = .ok (.invokevirtual 136, 3) := by decide +kernel
theorem d_Mo_series_29 : decode b_Mo_series 29 = .ok (.ifCond .ne 10, 3) := by decide +kernel
theorem d_Mo_series_32 : decode b_Mo_series 32 = .ok (.aload_n 0, 1) := by decide +kernel
theorem d_Mo_series_33 : decode b_Mo_series 33 = .ok (.iconst 0, 1) := by decide +kernel
theorem d_Mo_series_34 : decode b_Mo_series 34 = .ok (.putfield 105, 3) := by decide +kernel
theorem d_Mo_series_37 : decode b_Mo_series 37 = .ok (.iconst (-1), 1) := by decide +kernel
theorem d_Mo_series_38 : decode b_Mo_series 38 = .ok (.ireturn, 1) := by decide +kernel
theorem d_Mo_series_39 : decode b_Mo_series 39 = .ok (.aload_n 0, 1) := by decide +kernel
theorem d_Mo_series_40 : decode b_Mo_series 40 = .ok (.invokevirtual 140, 3) := by decide +kernel
theorem d_Mo_series_43 : decode b_Mo_series 43 = .ok (.istore_n 3, 1) := by decide +kernel
theorem d_Mo_series_44 : decode b_Mo_series 44 = .ok (.aload_n 0, 1) := by decide +kernel
theorem d_Mo_series_45 : decode b_Mo_series 45 = .ok (.iload_n 3, 1) := by decide +kernel
theorem d_Mo_series_46 : decode b_Mo_series 46 = .ok (.invokevirtual 144, 3) := by decide +kernel
theorem d_Mo_series_49 : decode b_Mo_series 49 = .ok (.istore 4, 2) := by decide +kernel
theorem d_Mo_series_51 : decode b_Mo_series 51 = .ok (.iload 4, 2) := by decide +kernel
theorem d_Mo_series_53 : decode b_Mo_series 53 = .ok (.iconst (-1), 1) := by decide +kernel
theorem d_Mo_series_54 : decode b_Mo_series 54 = .ok (.if_icmp .ne 30, 3) := by decide +kernel
theorem d_Mo_series_57 : decode b_Mo_series 57 = .ok (.aload_n 0, 1) := by decide +kernel
theorem d_Mo_series_58 : decode b_Mo_series 58 = .ok (.getfield 133, 3) := by decide +kernel
theorem d_Mo_series_61 : decode b_Mo_series 61 = .ok (.sipush 256, 3) := by decide +kernel
theorem d_Mo_series_64 : decode b_Mo_series 64 = .ok (.if_icmp .ne 20, 3) := by decide +kernel
theorem d_Mo_series_67 : decode b_Mo_series 67 = .ok (.aload_n 0, 1) := by decide +kernel
theorem d_Mo_series_68 : decode b_Mo_series 68 = .ok (.iconst 1, 1) := by decide +kernel
theorem d_Mo_series_69 : decode b_Mo_series 69 = .ok (.putfield 101, 3) := by decide +kernel
theorem d_Mo_series_72 : decode b_Mo_series 72 = .ok (.aload_n 0, 1) := by decide +kernel
theorem d_Mo_series_73 : decode b_Mo_series 73 = .ok (.iload_n 1, 1) := by decide +kernel
theorem d_Mo_series_74 : decode b_Mo_series 74 = .ok (.putfield 108, 3) := by decide +kernel
theorem d_Mo_series_77 : decode b_Mo_series 77 = .ok (.aload_n 0, 1) := by decide +kernel
theorem d_Mo_series_78 : decode b_Mo_series 78 = .ok (.iload_n 2, 1) := by decide +kernel
theorem d_Mo_series_79 : decode b_Mo_series 79 = .ok (.putfield 111, 3) := by decide +kernel
theorem d_Mo_series_82 : decode b_Mo_series 82 = .ok (.iconst 0, 1) := by decide +kernel
theorem d_Mo_series_83 : decode b_Mo_series 83 = .ok (.ireturn, 1) := by decide +kernel
theorem d_Mo_series_84 : decode b_Mo_series 84 = .ok (.iload 4, 2) := by decide +kernel
theorem d_Mo_series_86 : decode b_Mo_series 86 = .ok (.iconst (-1), 1) := by decide +kernel
theorem d_Mo_series_87 : decode b_Mo_series 87 = .ok (.if_icmp .ne 37, 3) := by decide +kernel
theorem d_Mo_series_90 : decode b_Mo_series 90 = .ok (.aload_n 0, 1) := by decide +kernel
theorem d_Mo_series_91 : decode b_Mo_series 91 = .ok (.getfield 133, 3) := by decide +kernel
theorem d_Mo_series_94 : decode b_Mo_series 94 = .ok (.istore 4, 2) := by decide +kernel
theorem d_Mo_series_96 : decode b_Mo_series 96 = .ok (.aload_n 0, 1) := by decide +kernel
theorem d_Mo_series_97 : decode b_Mo_series 97 = .ok (.getfield 18, 3) := by decide +kernel
theorem d_Mo_series_100 : decode b_Mo_series 100 = .ok (.iload 4, 2) := by decide +kernel
theorem d_Mo_series_102 : decode b_Mo_series 102 = .ok (.iload_n 3, 1) := by decide +kernel
theorem d_Mo_series_103 : decode b_Mo_series 103 = .ok (.iastore, 1) := by decide +kernel
theorem d_Mo_series_104 : decode b_Mo_series 104 = .ok (.aload_n 0, 1) := by decide +kernel
theorem d_Mo_series_105 : decode b_Mo_series 105 = .ok (.getfield 22, 3) := by decide +kernel
theorem d_Mo_series_108 : decode b_Mo_series 108 = .ok (.iload 4, 2) := by decide +kernel
theorem d_Mo_series_110 : decode b_Mo_series 110 = .ok (.ldc2_w 147, 3) := by decide +kernel
theorem d_Mo_series_113 : decode b_Mo_series 113 = .ok (.lastore, 1) := by decide +kernel
theorem d_Mo_series_114 : decode b_Mo_series 114 = .ok (.aload_n 0, 1) := by decide +kernel
theorem d_Mo_series_115 : decode b_Mo_series 115 = .ok (.dup, 1) := by decide +kernel
theorem d_Mo_series_116 : decode b_Mo_series 116 = .ok (.getfield 133, 3) := by decide +kernel
theorem d_Mo_series_119 : decode b_Mo_series 119 = .ok (.iconst 1, 1) := by decide +kernel
theorem d_Mo_series_120 : decode b_Mo_series 120 = .ok (.iadd, 1) := by decide +kernel
theorem d_Mo_series_121 : decode b_Mo_series 121 = .ok (.putfield 133, 3) := by decide +kernel
theorem d_Mo_series_124 : decode b_Mo_series 124 = .ok (.aload_n 0, 1) := by decide +kernel
theorem d_Mo_series_125 : decode b_Mo_series 125 = .ok (.iconst 0, 1) := by decide +kernel
theorem d_Mo_series_126 : decode b_Mo_series 126 = .ok (.putfield 105, 3) := by decide +kernel
theorem d_Mo_series_129 : decode b_Mo_series 129 = .ok (.iload 4, 2) := by decide +kernel
theorem d_Mo_series_131 : decode b_Mo_series 131 = .ok (.ireturn, 1) := by decide +kernel
theorem d_Mo_isSeries_0 : decode b_Mo_isSeries 0 = .ok (.iload_n 1, 1) := by decide +kernel
theorem d_Mo_isSeries_1 : decode b_Mo_isSeries 1 = .ok (.ifCond .lt 15, 3) := by decide +kernel
theorem d_Mo_isSeries_4 : decode b_Mo_isSeries 4 = .ok (.iload_n 1, 1) := by decide +kernel
theorem d_Mo_isSeries_5 : decode b_Mo_isSeries 5 = .ok (.aload_n 0, 1) := by decide +kernel
theorem d_Mo_isSeries_6 : decode b_Mo_isSeries 6 = .ok (.getfield 133, 3) := by decide +kernel
theorem d_Mo_isSeries_9 : decode b_Mo_isSeries 9 = .ok (.if_icmp .ge 7, 3) := by decide +kernel
theorem d_Mo_isSeries_12 : decode b_Mo_isSeries 12 = .ok (.iconst 1, 1) := by decide +kernel
theorem d_Mo_isSeries_13 : decode b_Mo_isSeries 13 = .ok (.goto 4, 3) := by decide +kernel
theorem d_Mo_isSeries_16 : decode b_Mo_isSeries 16 = .ok (.iconst 0, 1) := by decide +kernel
theorem d_Mo_isSeries_17 : decode b_Mo_isSeries 17 = .ok (.ireturn, 1) := by decide +kernel
theorem d_Mo_letter_0 : decode b_Mo_letter 0 = .ok (.aload_n 0, 1) := by decide +kernel
theorem d_Mo_letter_1 : decode b_Mo_letter 1 = .ok (.aload_n 0, 1) := by decide +kernel
theorem d_Mo_letter_2 : decode b_Mo_letter 2 = .ok (.iload_n 1, 1) := by decide +kernel
theorem d_Mo_letter_3 : decode b_Mo_letter 3 = .ok (.invokevirtual 149, 3) := by decide +kernel
theorem d_Mo_letter_6 : decode b_Mo_letter 6 = .ok (.ifCond .eq 7, 3) := by decide +kernel
theorem d_Mo_letter_9 : decode b_Mo_letter 9 = .ok (.iconst 0, 1) := by decide +kernel
theorem d_Mo_letter_10 : decode b_Mo_letter 10 = .ok (.goto 4, 3) := by decide +kernel
theorem d_Mo_letter_13 : decode b_Mo_letter 13 = .ok (.iconst 1, 1) := by decide +kernel
theorem d_Mo_letter_14 : decode b_Mo_letter 14 = .ok (.putfield 101, 3) := by decide +kernel
theorem d_Mo_letter_17 : decode b_Mo_letter 17 = .ok (.aload_n 0, 1) := by decide +kernel
theorem d_Mo_letter_18 : decode b_Mo_letter 18 = .ok (.getfield 101, 3) := by decide +kernel
theorem d_Mo_letter_21 : decode b_Mo_letter 21 = .ok (.ifCond .le 7, 3) := by decide +kernel
theorem d_Mo_letter_24 : decode b_Mo_letter 24 = .ok (.iconst 0, 1) := by decide +kernel
theorem d_Mo_letter_25 : decode b_Mo_letter 25 = .ok (.goto 33, 3) := by decide +kernel
theorem d_Mo_letter_28 : decode b_Mo_letter 28 = .ok (.iload_n 2, 1) := by decide +kernel
theorem d_Mo_letter_29 : decode b_Mo_letter 29 = .ok (.ifCond .lt 13, 3) := by decide +kernel
theorem d_Mo_letter_32 : decode b_Mo_letter 32 = .ok (.iload_n 2, 1) := by decide +kernel
theorem d_Mo_letter_33 : decode b_Mo_letter 33 = .ok (.aload_n 0, 1) := by decide +kernel
theorem d_Mo_letter_34 : decode b_Mo_letter 34 = .ok (.getfield 18, 3) := by decide +kernel
theorem d_Mo_letter_37 : decode b_Mo_letter 37 = .ok (.iload_n 1, 1) := by decide +kernel
theorem d_Mo_letter_38 : decode b_Mo_letter 38 = .ok (.iaload, 1) := by decide +kernel
theorem d_Mo_letter_39 : decode b_Mo_letter 39 = .ok (.if_icmp .lt 7, 3) := by decide +kernel
theorem d_Mo_letter_42 : decode b_Mo_letter 42 = .ok (.iconst (-1), 1) := by decide +kernel
theorem d_Mo_letter_43 : decode b_Mo_letter 43 = .ok (.goto 15, 3) := by decide +kernel
theorem d_Mo_letter_46 : decode b_Mo_letter 46 = .ok (.aload_n 0, 1) := by decide +kernel
theorem d_Mo_letter_47 : decode b_Mo_letter 47 = .ok (.getfield 15, 3) := by decide +kernel
theorem d_Mo_letter_50 : decode b_Mo_letter 50 = .ok (.sipush 304, 3) := by decide +kernel
theorem d_Mo_letter_53 : decode b_Mo_letter 53 = .ok (.iload_n 1, 1) := by decide +kernel
theorem d_Mo_letter_54 : decode b_Mo_letter 54 = .ok (.imul, 1) := by decide +kernel
theorem d_Mo_letter_55 : decode b_Mo_letter 55 = .ok (.iload_n 2, 1) := by decide +kernel
theorem d_Mo_letter_56 : decode b_Mo_letter 56 = .ok (.iadd, 1) := by decide +kernel
theorem d_Mo_letter_57 : decode b_Mo_letter 57 = .ok (.baload, 1) := by decide +kernel
theorem d_Mo_letter_58 : decode b_Mo_letter 58 = .ok (.ireturn, 1) := by decide +kernel
theorem d_Mo_last_0 : decode b_Mo_last 0 = .ok (.aload_n 0, 1) := by decide +kernel
theorem d_Mo_last_1 : decode b_Mo_last 1 = .ok (.aload_n 0, 1) := by decide +kernel
theorem d_Mo_last_2 : decode b_Mo_last 2 = .ok (.iload_n 1, 1) := by decide +kernel
theorem d_Mo_last_3 : decode b_Mo_last 3 = .ok (.invokevirtual 149, 3) := by decide +kernel
theorem d_Mo_last_6 : decode b_Mo_last 6 = .ok (.ifCond .eq 7, 3) := by decide +kernel
theorem d_Mo_last_9 : decode b_Mo_last 9 = .ok (.iconst 0, 1) := by decide +kernel
theorem d_Mo_last_10 : decode b_Mo_last 10 = .ok (.goto 4, 3) := by decide +kernel
theorem d_Mo_last_13 : decode b_Mo_last 13 = .ok (.iconst 1, 1) := by decide +kernel
theorem d_Mo_last_14 : decode b_Mo_last 14 = .ok (.putfield 101, 3) := by decide +kernel
theorem d_Mo_last_17 : decode b_Mo_last 17 = .ok (.aload_n 0, 1) := by decide +kernel
theorem d_Mo_last_18 : decode b_Mo_last 18 = .ok (.getfield 101, 3) := by decide +kernel
theorem d_Mo_last_21 : decode b_Mo_last 21 = .ok (.ifCond .le 7, 3) := by decide +kernel
theorem d_Mo_last_24 : decode b_Mo_last 24 = .ok (.lconst 0, 1) := by decide +kernel
theorem d_Mo_last_25 : decode b_Mo_last 25 = .ok (.goto 9, 3) := by decide +kernel
theorem d_Mo_last_28 : decode b_Mo_last 28 = .ok (.aload_n 0, 1) := by decide +kernel
theorem d_Mo_last_29 : decode b_Mo_last 29 = .ok (.getfield 22, 3) := by decide +kernel
theorem d_Mo_last_32 : decode b_Mo_last 32 = .ok (.iload_n 1, 1) := by decide +kernel
theorem d_Mo_last_33 : decode b_Mo_last 33 = .ok (.laload, 1) := by decide +kernel
theorem d_Mo_last_34 : decode b_Mo_last 34 = .ok (.lreturn, 1) := by decide +kernel
theorem d_Mo_tidy_0 : decode b_Mo_tidy 0 = .ok (.iconst 0, 1) := by decide +kernel
theorem d_Mo_tidy_1 : decode b_Mo_tidy 1 = .ok (.istore_n 1, 1) := by decide +kernel
theorem d_Mo_tidy_2 : decode b_Mo_tidy 2 = .ok (.iconst 0, 1) := by decide +kernel
theorem d_Mo_tidy_3 : decode b_Mo_tidy 3 = .ok (.istore_n 2, 1) := by decide +kernel
theorem d_Mo_tidy_4 : decode b_Mo_tidy 4 = .ok (.iload_n 2, 1) := by decide +kernel
theorem d_Mo_tidy_5 : decode b_Mo_tidy 5 = .ok (.aload_n 0, 1) := by decide +kernel
theorem d_Mo_tidy_6 : decode b_Mo_tidy 6 = .ok (.getfield 152, 3) := by decide +kernel
theorem d_Mo_tidy_9 : decode b_Mo_tidy 9 = .ok (.if_icmp .ge 73, 3) := by decide +kernel
theorem d_Mo_tidy_12 : decode b_Mo_tidy 12 = .ok (.aload_n 0, 1) := by decide +kernel
theorem d_Mo_tidy_13 : decode b_Mo_tidy 13 = .ok (.getfield 35, 3) := by decide +kernel
theorem d_Mo_tidy_16 : decode b_Mo_tidy 16 = .ok (.iload_n 2, 1) := by decide +kernel
theorem d_Mo_tidy_17 : decode b_Mo_tidy 17 = .ok (.baload, 1) := by decide +kernel
theorem d_Mo_tidy_18 : decode b_Mo_tidy 18 = .ok (.iconst 2, 1) := by decide +kernel
theorem d_Mo_tidy_19 : decode b_Mo_tidy 19 = .ok (.if_icmp .ne 6, 3) := by decide +kernel
theorem d_Mo_tidy_22 : decode b_Mo_tidy 22 = .ok (.goto 54, 3) := by decide +kernel
theorem d_Mo_tidy_25 : decode b_Mo_tidy 25 = .ok (.aload_n 0, 1) := by decide +kernel
theorem d_Mo_tidy_26 : decode b_Mo_tidy 26 = .ok (.getfield 26, 3) := by decide +kernel
theorem d_Mo_tidy_29 : decode b_Mo_tidy 29 = .ok (.iload_n 1, 1) := by decide +kernel
theorem d_Mo_tidy_30 : decode b_Mo_tidy 30 = .ok (.aload_n 0, 1) := by decide +kernel
theorem d_Mo_tidy_31 : decode b_Mo_tidy 31 = .ok (.getfield 26, 3) := by decide +kernel
theorem d_Mo_tidy_34 : decode b_Mo_tidy 34 = .ok (.iload_n 2, 1) := by decide +kernel
theorem d_Mo_tidy_35 : decode b_Mo_tidy 35 = .ok (.iaload, 1) := by decide +kernel
theorem d_Mo_tidy_36 : decode b_Mo_tidy 36 = .ok (.iastore, 1) := by decide +kernel
theorem d_Mo_tidy_37 : decode b_Mo_tidy 37 = .ok (.aload_n 0, 1) := by decide +kernel
theorem d_Mo_tidy_38 : decode b_Mo_tidy 38 = .ok (.getfield 29, 3) := by decide +kernel
theorem d_Mo_tidy_41 : decode b_Mo_tidy 41 = .ok (.iload_n 1, 1) := by decide +kernel
theorem d_Mo_tidy_42 : decode b_Mo_tidy 42 = .ok (.aload_n 0, 1) := by decide +kernel
theorem d_Mo_tidy_43 : decode b_Mo_tidy 43 = .ok (.getfield 29, 3) := by decide +kernel
theorem d_Mo_tidy_46 : decode b_Mo_tidy 46 = .ok (.iload_n 2, 1) := by decide +kernel
theorem d_Mo_tidy_47 : decode b_Mo_tidy 47 = .ok (.laload, 1) := by decide +kernel
theorem d_Mo_tidy_48 : decode b_Mo_tidy 48 = .ok (.lastore, 1) := by decide +kernel
theorem d_Mo_tidy_49 : decode b_Mo_tidy 49 = .ok (.aload_n 0, 1) := by decide +kernel
theorem d_Mo_tidy_50 : decode b_Mo_tidy 50 = .ok (.getfield 32, 3) := by decide +kernel
theorem d_Mo_tidy_53 : decode b_Mo_tidy 53 = .ok (.iload_n 1, 1) := by decide +kernel
theorem d_Mo_tidy_54 : decode b_Mo_tidy 54 = .ok (.aload_n 0, 1) := by decide +kernel
theorem d_Mo_tidy_55 : decode b_Mo_tidy 55 = .ok (.getfield 32, 3) := by decide +kernel
theorem d_Mo_tidy_58 : decode b_Mo_tidy 58 = .ok (.iload_n 2, 1) := by decide +kernel
theorem d_Mo_tidy_59 : decode b_Mo_tidy 59 = .ok (.laload, 1) := by decide +kernel
theorem d_Mo_tidy_60 : decode b_Mo_tidy 60 = .ok (.lastore, 1) := by decide +kernel
theorem d_Mo_tidy_61 : decode b_Mo_tidy 61 = .ok (.aload_n 0, 1) := by decide +kernel
theorem d_Mo_tidy_62 : decode b_Mo_tidy 62 = .ok (.getfield 35, 3) := by decide +kernel
theorem d_Mo_tidy_65 : decode b_Mo_tidy 65 = .ok (.iload_n 1, 1) := by decide +kernel
theorem d_Mo_tidy_66 : decode b_Mo_tidy 66 = .ok (.aload_n 0, 1) := by decide +kernel
theorem d_Mo_tidy_67 : decode b_Mo_tidy 67 = .ok (.getfield 35, 3) := by decide +kernel
theorem d_Mo_tidy_70 : decode b_Mo_tidy 70 = .ok (.iload_n 2, 1) := by decide +kernel
theorem d_Mo_tidy_71 : decode b_Mo_tidy 71 = .ok (.baload, 1) := by decide +kernel
theorem d_Mo_tidy_72 : decode b_Mo_tidy 72 = .ok (.bastore, 1) := by decide +kernel
theorem d_Mo_tidy_73 : decode b_Mo_tidy 73 = .ok (.iinc 1 1, 3) := by decide +kernel
theorem d_Mo_tidy_76 : decode b_Mo_tidy 76 = .ok (.iinc 2 1, 3) := by decide +kernel
theorem d_Mo_tidy_79 : decode b_Mo_tidy 79 = .ok (.goto (-75), 3) := by decide +kernel
theorem d_Mo_tidy_82 : decode b_Mo_tidy 82 = .ok (.aload_n 0, 1) := by decide +kernel
theorem d_Mo_tidy_83 : decode b_Mo_tidy 83 = .ok (.iload_n 1, 1) := by decide +kernel
theorem d_Mo_tidy_84 : decode b_Mo_tidy 84 = .ok (.putfield 152, 3) := by decide +kernel
theorem d_Mo_tidy_87 : decode b_Mo_tidy 87 = .ok (.return_, 1) := by decide +kernel
theorem d_Mo_why_0 : decode b_Mo_why 0 = .ok (.lload_n 2, 1) := by decide +kernel
theorem d_Mo_why_1 : decode b_Mo_why 1 = .ok (.lconst 0, 1) := by decide +kernel
theorem d_Mo_why_2 : decode b_Mo_why 2 = .ok (.lcmp, 1) := by decide +kernel
theorem d_Mo_why_3 : decode b_Mo_why 3 = .ok (.ifCond .lt 31, 3) := by decide +kernel
theorem d_Mo_why_6 : decode b_Mo_why 6 = .ok (.lload_n 2, 1) := by decide +kernel
theorem d_Mo_why_7 : decode b_Mo_why 7 = .ok (.ldc2_w 155, 3) := by decide +kernel
theorem d_Mo_why_10 : decode b_Mo_why 10 = .ok (.lcmp, 1) := by decide +kernel
theorem d_Mo_why_11 : decode b_Mo_why 11 = .ok (.ifCond .gt 23, 3) := by decide +kernel
theorem d_Mo_why_14 : decode b_Mo_why 14 = .ok (.lload_n 2, 1) := by decide +kernel
theorem d_Mo_why_15 : decode b_Mo_why 15 = .ok (.aload_n 0, 1) := by decide +kernel
theorem d_Mo_why_16 : decode b_Mo_why 16 = .ok (.getfield 22, 3) := by decide +kernel
theorem d_Mo_why_19 : decode b_Mo_why 19 = .ok (.iload_n 1, 1) := by decide +kernel
theorem d_Mo_why_20 : decode b_Mo_why 20 = .ok (.laload, 1) := by decide +kernel
theorem d_Mo_why_21 : decode b_Mo_why 21 = .ok (.lcmp, 1) := by decide +kernel
theorem d_Mo_why_22 : decode b_Mo_why 22 = .ok (.ifCond .le 12, 3) := by decide +kernel
theorem d_Mo_why_25 : decode b_Mo_why 25 = .ok (.lload_n 2, 1) := by decide +kernel
theorem d_Mo_why_26 : decode b_Mo_why 26 = .ok (.aload_n 0, 1) := by decide +kernel
theorem d_Mo_why_27 : decode b_Mo_why 27 = .ok (.getfield 157, 3) := by decide +kernel
theorem d_Mo_why_30 : decode b_Mo_why 30 = .ok (.lcmp, 1) := by decide +kernel
theorem d_Mo_why_31 : decode b_Mo_why 31 = .ok (.ifCond .ge 7, 3) := by decide +kernel
theorem d_Mo_why_34 : decode b_Mo_why 34 = .ok (.iconst 2, 1) := by decide +kernel
theorem d_Mo_why_35 : decode b_Mo_why 35 = .ok (.goto 18, 3) := by decide +kernel
theorem d_Mo_why_38 : decode b_Mo_why 38 = .ok (.aload_n 0, 1) := by decide +kernel
theorem d_Mo_why_39 : decode b_Mo_why 39 = .ok (.getfield 161, 3) := by decide +kernel
theorem d_Mo_why_42 : decode b_Mo_why 42 = .ok (.sipush 4096, 3) := by decide +kernel
theorem d_Mo_why_45 : decode b_Mo_why 45 = .ok (.if_icmp .ne 7, 3) := by decide +kernel
theorem d_Mo_why_48 : decode b_Mo_why 48 = .ok (.iconst 3, 1) := by decide +kernel
theorem d_Mo_why_49 : decode b_Mo_why 49 = .ok (.goto 4, 3) := by decide +kernel
theorem d_Mo_why_52 : decode b_Mo_why 52 = .ok (.iconst 0, 1) := by decide +kernel
theorem d_Mo_why_53 : decode b_Mo_why 53 = .ok (.ireturn, 1) := by decide +kernel
theorem d_Mo_come_0 : decode b_Mo_come 0 = .ok (.aload_n 0, 1) := by decide +kernel
theorem d_Mo_come_1 : decode b_Mo_come 1 = .ok (.getfield 22, 3) := by decide +kernel
theorem d_Mo_come_4 : decode b_Mo_come 4 = .ok (.iload_n 1, 1) := by decide +kernel
theorem d_Mo_come_5 : decode b_Mo_come 5 = .ok (.lload_n 2, 1) := by decide +kernel
theorem d_Mo_come_6 : decode b_Mo_come 6 = .ok (.lastore, 1) := by decide +kernel
theorem d_Mo_come_7 : decode b_Mo_come 7 = .ok (.aload_n 0, 1) := by decide +kernel
theorem d_Mo_come_8 : decode b_Mo_come 8 = .ok (.getfield 26, 3) := by decide +kernel
theorem d_Mo_come_11 : decode b_Mo_come 11 = .ok (.aload_n 0, 1) := by decide +kernel
theorem d_Mo_come_12 : decode b_Mo_come 12 = .ok (.getfield 152, 3) := by decide +kernel
theorem d_Mo_come_15 : decode b_Mo_come 15 = .ok (.iload_n 1, 1) := by decide +kernel
theorem d_Mo_come_16 : decode b_Mo_come 16 = .ok (.iastore, 1) := by decide +kernel
theorem d_Mo_come_17 : decode b_Mo_come 17 = .ok (.aload_n 0, 1) := by decide +kernel
theorem d_Mo_come_18 : decode b_Mo_come 18 = .ok (.getfield 29, 3) := by decide +kernel
theorem d_Mo_come_21 : decode b_Mo_come 21 = .ok (.aload_n 0, 1) := by decide +kernel
theorem d_Mo_come_22 : decode b_Mo_come 22 = .ok (.getfield 152, 3) := by decide +kernel
theorem d_Mo_come_25 : decode b_Mo_come 25 = .ok (.lload_n 2, 1) := by decide +kernel
theorem d_Mo_come_26 : decode b_Mo_come 26 = .ok (.lastore, 1) := by decide +kernel
theorem d_Mo_come_27 : decode b_Mo_come 27 = .ok (.aload_n 0, 1) := by decide +kernel
theorem d_Mo_come_28 : decode b_Mo_come 28 = .ok (.getfield 32, 3) := by decide +kernel
theorem d_Mo_come_31 : decode b_Mo_come 31 = .ok (.aload_n 0, 1) := by decide +kernel
theorem d_Mo_come_32 : decode b_Mo_come 32 = .ok (.getfield 152, 3) := by decide +kernel
theorem d_Mo_come_35 : decode b_Mo_come 35 = .ok (.lload 4, 2) := by decide +kernel
theorem d_Mo_come_37 : decode b_Mo_come 37 = .ok (.lastore, 1) := by decide +kernel
theorem d_Mo_come_38 : decode b_Mo_come 38 = .ok (.aload_n 0, 1) := by decide +kernel
theorem d_Mo_come_39 : decode b_Mo_come 39 = .ok (.getfield 35, 3) := by decide +kernel
theorem d_Mo_come_42 : decode b_Mo_come 42 = .ok (.aload_n 0, 1) := by decide +kernel
theorem d_Mo_come_43 : decode b_Mo_come 43 = .ok (.getfield 152, 3) := by decide +kernel
theorem d_Mo_come_46 : decode b_Mo_come 46 = .ok (.iconst 0, 1) := by decide +kernel
theorem d_Mo_come_47 : decode b_Mo_come 47 = .ok (.bastore, 1) := by decide +kernel
theorem d_Mo_come_48 : decode b_Mo_come 48 = .ok (.aload_n 0, 1) := by decide +kernel
theorem d_Mo_come_49 : decode b_Mo_come 49 = .ok (.dup, 1) := by decide +kernel
theorem d_Mo_come_50 : decode b_Mo_come 50 = .ok (.getfield 152, 3) := by decide +kernel
theorem d_Mo_come_53 : decode b_Mo_come 53 = .ok (.iconst 1, 1) := by decide +kernel
theorem d_Mo_come_54 : decode b_Mo_come 54 = .ok (.iadd, 1) := by decide +kernel
theorem d_Mo_come_55 : decode b_Mo_come 55 = .ok (.putfield 152, 3) := by decide +kernel
theorem d_Mo_come_58 : decode b_Mo_come 58 = .ok (.aload_n 0, 1) := by decide +kernel
theorem d_Mo_come_59 : decode b_Mo_come 59 = .ok (.dup, 1) := by decide +kernel
theorem d_Mo_come_60 : decode b_Mo_come 60 = .ok (.getfield 161, 3) := by decide +kernel
theorem d_Mo_come_63 : decode b_Mo_come 63 = .ok (.iconst 1, 1) := by decide +kernel
theorem d_Mo_come_64 : decode b_Mo_come 64 = .ok (.iadd, 1) := by decide +kernel
theorem d_Mo_come_65 : decode b_Mo_come 65 = .ok (.putfield 161, 3) := by decide +kernel
theorem d_Mo_come_68 : decode b_Mo_come 68 = .ok (.return_, 1) := by decide +kernel
theorem d_Mo_append_0 : decode b_Mo_append 0 = .ok (.aload_n 0, 1) := by decide +kernel
theorem d_Mo_append_1 : decode b_Mo_append 1 = .ok (.aload_n 0, 1) := by decide +kernel
theorem d_Mo_append_2 : decode b_Mo_append 2 = .ok (.iload_n 1, 1) := by decide +kernel
theorem d_Mo_append_3 : decode b_Mo_append 3 = .ok (.invokevirtual 149, 3) := by decide +kernel
theorem d_Mo_append_6 : decode b_Mo_append 6 = .ok (.ifCond .eq 12, 3) := by decide +kernel
theorem d_Mo_append_9 : decode b_Mo_append 9 = .ok (.aload_n 0, 1) := by decide +kernel
theorem d_Mo_append_10 : decode b_Mo_append 10 = .ok (.iload_n 1, 1) := by decide +kernel
theorem d_Mo_append_11 : decode b_Mo_append 11 = .ok (.lload_n 2, 1) := by decide +kernel
theorem d_Mo_append_12 : decode b_Mo_append 12 = .ok (.invokevirtual 164, 3) := by decide +kernel
theorem d_Mo_append_15 : decode b_Mo_append 15 = .ok (.goto 4, 3) := by decide +kernel
theorem d_Mo_append_18 : decode b_Mo_append 18 = .ok (.iconst 1, 1) := by decide +kernel
theorem d_Mo_append_19 : decode b_Mo_append 19 = .ok (.putfield 101, 3) := by decide +kernel
theorem d_Mo_append_22 : decode b_Mo_append 22 = .ok (.aload_n 0, 1) := by decide +kernel
theorem d_Mo_append_23 : decode b_Mo_append 23 = .ok (.getfield 101, 3) := by decide +kernel
theorem d_Mo_append_26 : decode b_Mo_append 26 = .ok (.ifCond .le 5, 3) := by decide +kernel
theorem d_Mo_append_29 : decode b_Mo_append 29 = .ok (.iconst 0, 1) := by decide +kernel
theorem d_Mo_append_30 : decode b_Mo_append 30 = .ok (.ireturn, 1) := by decide +kernel
theorem d_Mo_append_31 : decode b_Mo_append 31 = .ok (.aload_n 0, 1) := by decide +kernel
theorem d_Mo_append_32 : decode b_Mo_append 32 = .ok (.iload_n 1, 1) := by decide +kernel
theorem d_Mo_append_33 : decode b_Mo_append 33 = .ok (.lload_n 2, 1) := by decide +kernel
theorem d_Mo_append_34 : decode b_Mo_append 34 = .ok (.lload 4, 2) := by decide +kernel
theorem d_Mo_append_36 : decode b_Mo_append 36 = .ok (.invokevirtual 168, 3) := by decide +kernel
theorem d_Mo_append_39 : decode b_Mo_append 39 = .ok (.aload_n 0, 1) := by decide +kernel
theorem d_Mo_append_40 : decode b_Mo_append 40 = .ok (.getfield 161, 3) := by decide +kernel
theorem d_Mo_append_43 : decode b_Mo_append 43 = .ok (.ireturn, 1) := by decide +kernel
theorem d_Mo_numberAt_0 : decode b_Mo_numberAt 0 = .ok (.lconst 0, 1) := by decide +kernel
theorem d_Mo_numberAt_1 : decode b_Mo_numberAt 1 = .ok (.lstore_n 2, 1) := by decide +kernel
theorem d_Mo_numberAt_2 : decode b_Mo_numberAt 2 = .ok (.iconst 0, 1) := by decide +kernel
theorem d_Mo_numberAt_3 : decode b_Mo_numberAt 3 = .ok (.istore 4, 2) := by decide +kernel
theorem d_Mo_numberAt_5 : decode b_Mo_numberAt 5 = .ok (.iload 4, 2) := by decide +kernel
theorem d_Mo_numberAt_7 : decode b_Mo_numberAt 7 = .ok (.bipush 8, 2) := by decide +kernel
theorem d_Mo_numberAt_9 : decode b_Mo_numberAt 9 = .ok (.if_icmp .ge 29, 3) := by decide +kernel
theorem d_Mo_numberAt_12 : decode b_Mo_numberAt 12 = .ok (.lload_n 2, 1) := by decide +kernel
theorem d_Mo_numberAt_13 : decode b_Mo_numberAt 13 = .ok (.bipush 8, 2) := by decide +kernel
theorem d_Mo_numberAt_15 : decode b_Mo_numberAt 15 = .ok (.lshl, 1) := by decide +kernel
theorem d_Mo_numberAt_16 : decode b_Mo_numberAt 16 = .ok (.aload_n 0, 1) := by decide +kernel
theorem d_Mo_numberAt_17 : decode b_Mo_numberAt 17 = .ok (.getfield 8, 3) := by decide +kernel
theorem d_Mo_numberAt_20 : decode b_Mo_numberAt 20 = .ok (.iload_n 1, 1) := by decide +kernel
theorem d_Mo_numberAt_21 : decode b_Mo_numberAt 21 = .ok (.iload 4, 2) := by decide +kernel
theorem d_Mo_numberAt_23 : decode b_Mo_numberAt 23 = .ok (.iadd, 1) := by decide +kernel
theorem d_Mo_numberAt_24 : decode b_Mo_numberAt 24 = .ok (.baload, 1) := by decide +kernel
theorem d_Mo_numberAt_25 : decode b_Mo_numberAt 25 = .ok (.sipush 255, 3) := by decide +kernel
theorem d_Mo_numberAt_28 : decode b_Mo_numberAt 28 = .ok (.iand, 1) := by decide +kernel
theorem d_Mo_numberAt_29 : decode b_Mo_numberAt 29 = .ok (.i2l, 1) := by decide +kernel
theorem d_Mo_numberAt_30 : decode b_Mo_numberAt 30 = .ok (.lor, 1) := by decide +kernel
theorem d_Mo_numberAt_31 : decode b_Mo_numberAt 31 = .ok (.lstore_n 2, 1) := by decide +kernel
theorem d_Mo_numberAt_32 : decode b_Mo_numberAt 32 = .ok (.iinc 4 1, 3) := by decide +kernel
theorem d_Mo_numberAt_35 : decode b_Mo_numberAt 35 = .ok (.goto (-30), 3) := by decide +kernel
theorem d_Mo_numberAt_38 : decode b_Mo_numberAt 38 = .ok (.lload_n 2, 1) := by decide +kernel
theorem d_Mo_numberAt_39 : decode b_Mo_numberAt 39 = .ok (.lreturn, 1) := by decide +kernel
theorem d_Mo_bulk_0 : decode b_Mo_bulk 0 = .ok (.aload_n 0, 1) := by decide +kernel
theorem d_Mo_bulk_1 : decode b_Mo_bulk 1 = .ok (.aload_n 0, 1) := by decide +kernel
theorem d_Mo_bulk_2 : decode b_Mo_bulk 2 = .ok (.iload_n 1, 1) := by decide +kernel
theorem d_Mo_bulk_3 : decode b_Mo_bulk 3 = .ok (.invokevirtual 149, 3) := by decide +kernel
theorem d_Mo_bulk_6 : decode b_Mo_bulk 6 = .ok (.ifCond .eq 7, 3) := by decide +kernel
theorem d_Mo_bulk_9 : decode b_Mo_bulk 9 = .ok (.iconst 0, 1) := by decide +kernel
theorem d_Mo_bulk_10 : decode b_Mo_bulk 10 = .ok (.goto 4, 3) := by decide +kernel
theorem d_Mo_bulk_13 : decode b_Mo_bulk 13 = .ok (.iconst 1, 1) := by decide +kernel
theorem d_Mo_bulk_14 : decode b_Mo_bulk 14 = .ok (.putfield 101, 3) := by decide +kernel
theorem d_Mo_bulk_17 : decode b_Mo_bulk 17 = .ok (.aload_n 0, 1) := by decide +kernel
theorem d_Mo_bulk_18 : decode b_Mo_bulk 18 = .ok (.getfield 101, 3) := by decide +kernel
theorem d_Mo_bulk_21 : decode b_Mo_bulk 21 = .ok (.ifCond .le 5, 3) := by decide +kernel
theorem d_Mo_bulk_24 : decode b_Mo_bulk 24 = .ok (.iconst 0, 1) := by decide +kernel
theorem d_Mo_bulk_25 : decode b_Mo_bulk 25 = .ok (.ireturn, 1) := by decide +kernel
theorem d_Mo_bulk_26 : decode b_Mo_bulk 26 = .ok (.iconst 0, 1) := by decide +kernel
theorem d_Mo_bulk_27 : decode b_Mo_bulk 27 = .ok (.istore_n 2, 1) := by decide +kernel
theorem d_Mo_bulk_28 : decode b_Mo_bulk 28 = .ok (.bipush 16, 2) := by decide +kernel
theorem d_Mo_bulk_30 : decode b_Mo_bulk 30 = .ok (.iload_n 2, 1) := by decide +kernel
theorem d_Mo_bulk_31 : decode b_Mo_bulk 31 = .ok (.imul, 1) := by decide +kernel
theorem d_Mo_bulk_32 : decode b_Mo_bulk 32 = .ok (.bipush 16, 2) := by decide +kernel
theorem d_Mo_bulk_34 : decode b_Mo_bulk 34 = .ok (.iadd, 1) := by decide +kernel
theorem d_Mo_bulk_35 : decode b_Mo_bulk 35 = .ok (.aload_n 0, 1) := by decide +kernel
theorem d_Mo_bulk_36 : decode b_Mo_bulk 36 = .ok (.getfield 105, 3) := by decide +kernel
theorem d_Mo_bulk_39 : decode b_Mo_bulk 39 = .ok (.if_icmp .gt 49, 3) := by decide +kernel
theorem d_Mo_bulk_42 : decode b_Mo_bulk 42 = .ok (.aload_n 0, 1) := by decide +kernel
theorem d_Mo_bulk_43 : decode b_Mo_bulk 43 = .ok (.iload_n 1, 1) := by decide +kernel
theorem d_Mo_bulk_44 : decode b_Mo_bulk 44 = .ok (.aload_n 0, 1) := by decide +kernel
theorem d_Mo_bulk_45 : decode b_Mo_bulk 45 = .ok (.bipush 16, 2) := by decide +kernel
theorem d_Mo_bulk_47 : decode b_Mo_bulk 47 = .ok (.iload_n 2, 1) := by decide +kernel
theorem d_Mo_bulk_48 : decode b_Mo_bulk 48 = .ok (.imul, 1) := by decide +kernel
theorem d_Mo_bulk_49 : decode b_Mo_bulk 49 = .ok (.invokevirtual 172, 3) := by decide +kernel
theorem d_Mo_bulk_52 : decode b_Mo_bulk 52 = .ok (.invokevirtual 164, 3) := by decide +kernel
theorem d_Mo_bulk_55 : decode b_Mo_bulk 55 = .ok (.ifCond .ne 33, 3) := by decide +kernel
theorem d_Mo_bulk_58 : decode b_Mo_bulk 58 = .ok (.aload_n 0, 1) := by decide +kernel
theorem d_Mo_bulk_59 : decode b_Mo_bulk 59 = .ok (.iload_n 1, 1) := by decide +kernel
theorem d_Mo_bulk_60 : decode b_Mo_bulk 60 = .ok (.aload_n 0, 1) := by decide +kernel
theorem d_Mo_bulk_61 : decode b_Mo_bulk 61 = .ok (.bipush 16, 2) := by decide +kernel
theorem d_Mo_bulk_63 : decode b_Mo_bulk 63 = .ok (.iload_n 2, 1) := by decide +kernel
theorem d_Mo_bulk_64 : decode b_Mo_bulk 64 = .ok (.imul, 1) := by decide +kernel
theorem d_Mo_bulk_65 : decode b_Mo_bulk 65 = .ok (.invokevirtual 172, 3) := by decide +kernel
theorem d_Mo_bulk_68 : decode b_Mo_bulk 68 = .ok (.aload_n 0, 1) := by decide +kernel
theorem d_Mo_bulk_69 : decode b_Mo_bulk 69 = .ok (.bipush 16, 2) := by decide +kernel
theorem d_Mo_bulk_71 : decode b_Mo_bulk 71 = .ok (.iload_n 2, 1) := by decide +kernel
theorem d_Mo_bulk_72 : decode b_Mo_bulk 72 = .ok (.imul, 1) := by decide +kernel
theorem d_Mo_bulk_73 : decode b_Mo_bulk 73 = .ok (.bipush 8, 2) := by decide +kernel
theorem d_Mo_bulk_75 : decode b_Mo_bulk 75 = .ok (.iadd, 1) := by decide +kernel
theorem d_Mo_bulk_76 : decode b_Mo_bulk 76 = .ok (.invokevirtual 172, 3) := by decide +kernel
theorem d_Mo_bulk_79 : decode b_Mo_bulk 79 = .ok (.invokevirtual 168, 3) := by decide +kernel
theorem d_Mo_bulk_82 : decode b_Mo_bulk 82 = .ok (.iinc 2 1, 3) := by decide +kernel
theorem d_Mo_bulk_85 : decode b_Mo_bulk 85 = .ok (.goto (-57), 3) := by decide +kernel
theorem d_Mo_bulk_88 : decode b_Mo_bulk 88 = .ok (.aload_n 0, 1) := by decide +kernel
theorem d_Mo_bulk_89 : decode b_Mo_bulk 89 = .ok (.iconst 0, 1) := by decide +kernel
theorem d_Mo_bulk_90 : decode b_Mo_bulk 90 = .ok (.putfield 105, 3) := by decide +kernel
theorem d_Mo_bulk_93 : decode b_Mo_bulk 93 = .ok (.iload_n 2, 1) := by decide +kernel
theorem d_Mo_bulk_94 : decode b_Mo_bulk 94 = .ok (.ireturn, 1) := by decide +kernel
theorem d_Mo_between_0 : decode b_Mo_between 0 = .ok (.iconst 0, 1) := by decide +kernel
theorem d_Mo_between_1 : decode b_Mo_between 1 = .ok (.istore 7, 2) := by decide +kernel
theorem d_Mo_between_3 : decode b_Mo_between 3 = .ok (.iconst 0, 1) := by decide +kernel
theorem d_Mo_between_4 : decode b_Mo_between 4 = .ok (.istore 8, 2) := by decide +kernel
theorem d_Mo_between_6 : decode b_Mo_between 6 = .ok (.iload 8, 2) := by decide +kernel
theorem d_Mo_between_8 : decode b_Mo_between 8 = .ok (.aload_n 0, 1) := by decide +kernel
theorem d_Mo_between_9 : decode b_Mo_between 9 = .ok (.getfield 152, 3) := by decide +kernel
theorem d_Mo_between_12 : decode b_Mo_between 12 = .ok (.if_icmp .ge 88, 3) := by decide +kernel
theorem d_Mo_between_15 : decode b_Mo_between 15 = .ok (.iload_n 1, 1) := by decide +kernel
theorem d_Mo_between_16 : decode b_Mo_between 16 = .ok (.iconst (-1), 1) := by decide +kernel
theorem d_Mo_between_17 : decode b_Mo_between 17 = .ok (.if_icmp .eq 14, 3) := by decide +kernel
theorem d_Mo_between_20 : decode b_Mo_between 20 = .ok (.aload_n 0, 1) := by decide +kernel
theorem d_Mo_between_21 : decode b_Mo_between 21 = .ok (.getfield 26, 3) := by decide +kernel
theorem d_Mo_between_24 : decode b_Mo_between 24 = .ok (.iload 8, 2) := by decide +kernel
theorem d_Mo_between_26 : decode b_Mo_between 26 = .ok (.iaload, 1) := by decide +kernel
theorem d_Mo_between_27 : decode b_Mo_between 27 = .ok (.iload_n 1, 1) := by decide +kernel
theorem d_Mo_between_28 : decode b_Mo_between 28 = .ok (.if_icmp .ne 32, 3) := by decide +kernel
theorem d_Mo_between_31 : decode b_Mo_between 31 = .ok (.aload_n 0, 1) := by decide +kernel
theorem d_Mo_between_32 : decode b_Mo_between 32 = .ok (.getfield 29, 3) := by decide +kernel
theorem d_Mo_between_35 : decode b_Mo_between 35 = .ok (.iload 8, 2) := by decide +kernel
theorem d_Mo_between_37 : decode b_Mo_between 37 = .ok (.laload, 1) := by decide +kernel
theorem d_Mo_between_38 : decode b_Mo_between 38 = .ok (.lload_n 2, 1) := by decide +kernel
theorem d_Mo_between_39 : decode b_Mo_between 39 = .ok (.lcmp, 1) := by decide +kernel
theorem d_Mo_between_40 : decode b_Mo_between 40 = .ok (.ifCond .lt 20, 3) := by decide +kernel
theorem d_Mo_between_43 : decode b_Mo_between 43 = .ok (.aload_n 0, 1) := by decide +kernel
theorem d_Mo_between_44 : decode b_Mo_between 44 = .ok (.getfield 29, 3) := by decide +kernel
theorem d_Mo_between_47 : decode b_Mo_between 47 = .ok (.iload 8, 2) := by decide +kernel
theorem d_Mo_between_49 : decode b_Mo_between 49 = .ok (.laload, 1) := by decide +kernel
theorem d_Mo_between_50 : decode b_Mo_between 50 = .ok (.lload 4, 2) := by decide +kernel
theorem d_Mo_between_52 : decode b_Mo_between 52 = .ok (.lcmp, 1) := by decide +kernel
theorem d_Mo_between_53 : decode b_Mo_between 53 = .ok (.ifCond .gt 7, 3) := by decide +kernel
theorem d_Mo_between_56 : decode b_Mo_between 56 = .ok (.iconst 1, 1) := by decide +kernel
theorem d_Mo_between_57 : decode b_Mo_between 57 = .ok (.goto 4, 3) := by decide +kernel
theorem d_Mo_between_60 : decode b_Mo_between 60 = .ok (.iconst 0, 1) := by decide +kernel
theorem d_Mo_between_61 : decode b_Mo_between 61 = .ok (.istore 9, 2) := by decide +kernel
theorem d_Mo_between_63 : decode b_Mo_between 63 = .ok (.iload 7, 2) := by decide +kernel
theorem d_Mo_between_65 : decode b_Mo_between 65 = .ok (.iload 9, 2) := by decide +kernel
theorem d_Mo_between_67 : decode b_Mo_between 67 = .ok (.ifCond .eq 23, 3) := by decide +kernel
theorem d_Mo_between_70 : decode b_Mo_between 70 = .ok (.iload 6, 2) := by decide +kernel
theorem d_Mo_between_72 : decode b_Mo_between 72 = .ok (.ifCond .eq 14, 3) := by decide +kernel
theorem d_Mo_between_75 : decode b_Mo_between 75 = .ok (.aload_n 0, 1) := by decide +kernel
theorem d_Mo_between_76 : decode b_Mo_between 76 = .ok (.getfield 35, 3) := by decide +kernel
theorem d_Mo_between_79 : decode b_Mo_between 79 = .ok (.iload 8, 2) := by decide +kernel
theorem d_Mo_between_81 : decode b_Mo_between 81 = .ok (.baload, 1) := by decide +kernel
theorem d_Mo_between_82 : decode b_Mo_between 82 = .ok (.iconst 1, 1) := by decide +kernel
theorem d_Mo_between_83 : decode b_Mo_between 83 = .ok (.if_icmp .ne 7, 3) := by decide +kernel
theorem d_Mo_between_86 : decode b_Mo_between 86 = .ok (.iconst 1, 1) := by decide +kernel
theorem d_Mo_between_87 : decode b_Mo_between 87 = .ok (.goto 4, 3) := by decide +kernel
theorem d_Mo_between_90 : decode b_Mo_between 90 = .ok (.iconst 0, 1) := by decide +kernel
theorem d_Mo_between_91 : decode b_Mo_between 91 = .ok (.iadd, 1) := by decide +kernel
theorem d_Mo_between_92 : decode b_Mo_between 92 = .ok (.istore 7, 2) := by decide +kernel
theorem d_Mo_between_94 : decode b_Mo_between 94 = .ok (.iinc 8 1, 3) := by decide +kernel
theorem d_Mo_between_97 : decode b_Mo_between 97 = .ok (.goto (-91), 3) := by decide +kernel
theorem d_Mo_between_100 : decode b_Mo_between 100 = .ok (.iload 7, 2) := by decide +kernel
theorem d_Mo_between_102 : decode b_Mo_between 102 = .ok (.ireturn, 1) := by decide +kernel
theorem d_Mo_go_0 : decode b_Mo_go 0 = .ok (.iconst 0, 1) := by decide +kernel
theorem d_Mo_go_1 : decode b_Mo_go 1 = .ok (.istore 6, 2) := by decide +kernel
theorem d_Mo_go_3 : decode b_Mo_go 3 = .ok (.iload 6, 2) := by decide +kernel
theorem d_Mo_go_5 : decode b_Mo_go 5 = .ok (.aload_n 0, 1) := by decide +kernel
theorem d_Mo_go_6 : decode b_Mo_go 6 = .ok (.getfield 152, 3) := by decide +kernel
theorem d_Mo_go_9 : decode b_Mo_go 9 = .ok (.if_icmp .ge 109, 3) := by decide +kernel
theorem d_Mo_go_12 : decode b_Mo_go 12 = .ok (.iload_n 1, 1) := by decide +kernel
theorem d_Mo_go_13 : decode b_Mo_go 13 = .ok (.iconst (-1), 1) := by decide +kernel
theorem d_Mo_go_14 : decode b_Mo_go 14 = .ok (.if_icmp .eq 14, 3) := by decide +kernel
theorem d_Mo_go_17 : decode b_Mo_go 17 = .ok (.aload_n 0, 1) := by decide +kernel
theorem d_Mo_go_18 : decode b_Mo_go 18 = .ok (.getfield 26, 3) := by decide +kernel
theorem d_Mo_go_21 : decode b_Mo_go 21 = .ok (.iload 6, 2) := by decide +kernel
theorem d_Mo_go_23 : decode b_Mo_go 23 = .ok (.iaload, 1) := by decide +kernel
theorem d_Mo_go_24 : decode b_Mo_go 24 = .ok (.iload_n 1, 1) := by decide +kernel
theorem d_Mo_go_25 : decode b_Mo_go 25 = .ok (.if_icmp .ne 32, 3) := by decide +kernel
theorem d_Mo_go_28 : decode b_Mo_go 28 = .ok (.aload_n 0, 1) := by decide +kernel
theorem d_Mo_go_29 : decode b_Mo_go 29 = .ok (.getfield 29, 3) := by decide +kernel
theorem d_Mo_go_32 : decode b_Mo_go 32 = .ok (.iload 6, 2) := by decide +kernel
theorem d_Mo_go_34 : decode b_Mo_go 34 = .ok (.laload, 1) := by decide +kernel
theorem d_Mo_go_35 : decode b_Mo_go 35 = .ok (.lload_n 2, 1) := by decide +kernel
theorem d_Mo_go_36 : decode b_Mo_go 36 = .ok (.lcmp, 1) := by decide +kernel
theorem d_Mo_go_37 : decode b_Mo_go 37 = .ok (.ifCond .lt 20, 3) := by decide +kernel
theorem d_Mo_go_40 : decode b_Mo_go 40 = .ok (.aload_n 0, 1) := by decide +kernel
theorem d_Mo_go_41 : decode b_Mo_go 41 = .ok (.getfield 29, 3) := by decide +kernel
theorem d_Mo_go_44 : decode b_Mo_go 44 = .ok (.iload 6, 2) := by decide +kernel
theorem d_Mo_go_46 : decode b_Mo_go 46 = .ok (.laload, 1) := by decide +kernel
theorem d_Mo_go_47 : decode b_Mo_go 47 = .ok (.lload 4, 2) := by decide +kernel
theorem d_Mo_go_49 : decode b_Mo_go 49 = .ok (.lcmp, 1) := by decide +kernel
theorem d_Mo_go_50 : decode b_Mo_go 50 = .ok (.ifCond .gt 7, 3) := by decide +kernel
theorem d_Mo_go_53 : decode b_Mo_go 53 = .ok (.iconst 1, 1) := by decide +kernel
theorem d_Mo_go_54 : decode b_Mo_go 54 = .ok (.goto 4, 3) := by decide +kernel
theorem d_Mo_go_57 : decode b_Mo_go 57 = .ok (.iconst 0, 1) := by decide +kernel
theorem d_Mo_go_58 : decode b_Mo_go 58 = .ok (.istore 7, 2) := by decide +kernel
theorem d_Mo_go_60 : decode b_Mo_go 60 = .ok (.aload_n 0, 1) := by decide +kernel
theorem d_Mo_go_61 : decode b_Mo_go 61 = .ok (.dup, 1) := by decide +kernel
theorem d_Mo_go_62 : decode b_Mo_go 62 = .ok (.getfield 161, 3) := by decide +kernel
theorem d_Mo_go_65 : decode b_Mo_go 65 = .ok (.iload 7, 2) := by decide +kernel
theorem d_Mo_go_67 : decode b_Mo_go 67 = .ok (.ifCond .eq 17, 3) := by decide +kernel
theorem d_Mo_go_70 : decode b_Mo_go 70 = .ok (.aload_n 0, 1) := by decide +kernel
theorem d_Mo_go_71 : decode b_Mo_go 71 = .ok (.getfield 35, 3) := by decide +kernel
theorem d_Mo_go_74 : decode b_Mo_go 74 = .ok (.iload 6, 2) := by decide +kernel
theorem d_Mo_go_76 : decode b_Mo_go 76 = .ok (.baload, 1) := by decide +kernel
theorem d_Mo_go_77 : decode b_Mo_go 77 = .ok (.ifCond .ne 7, 3) := by decide +kernel
theorem d_Mo_go_80 : decode b_Mo_go 80 = .ok (.iconst 1, 1) := by decide +kernel
theorem d_Mo_go_81 : decode b_Mo_go 81 = .ok (.goto 4, 3) := by decide +kernel
theorem d_Mo_go_84 : decode b_Mo_go 84 = .ok (.iconst 0, 1) := by decide +kernel
theorem d_Mo_go_85 : decode b_Mo_go 85 = .ok (.isub, 1) := by decide +kernel
theorem d_Mo_go_86 : decode b_Mo_go 86 = .ok (.putfield 161, 3) := by decide +kernel
theorem d_Mo_go_89 : decode b_Mo_go 89 = .ok (.aload_n 0, 1) := by decide +kernel
theorem d_Mo_go_90 : decode b_Mo_go 90 = .ok (.getfield 35, 3) := by decide +kernel
theorem d_Mo_go_93 : decode b_Mo_go 93 = .ok (.iload 6, 2) := by decide +kernel
theorem d_Mo_go_95 : decode b_Mo_go 95 = .ok (.iload 7, 2) := by decide +kernel
theorem d_Mo_go_97 : decode b_Mo_go 97 = .ok (.ifCond .eq 7, 3) := by decide +kernel
theorem d_Mo_go_100 : decode b_Mo_go 100 = .ok (.iconst 2, 1) := by decide +kernel
theorem d_Mo_go_101 : decode b_Mo_go 101 = .ok (.goto 10, 3) := by decide +kernel
theorem d_Mo_go_104 : decode b_Mo_go 104 = .ok (.aload_n 0, 1) := by decide +kernel
theorem d_Mo_go_105 : decode b_Mo_go 105 = .ok (.getfield 35, 3) := by decide +kernel
theorem d_Mo_go_108 : decode b_Mo_go 108 = .ok (.iload 6, 2) := by decide +kernel
theorem d_Mo_go_110 : decode b_Mo_go 110 = .ok (.baload, 1) := by decide +kernel
theorem d_Mo_go_111 : decode b_Mo_go 111 = .ok (.bastore, 1) := by decide +kernel
theorem d_Mo_go_112 : decode b_Mo_go 112 = .ok (.iinc 6 1, 3) := by decide +kernel
theorem d_Mo_go_115 : decode b_Mo_go 115 = .ok (.goto (-112), 3) := by decide +kernel
theorem d_Mo_go_118 : decode b_Mo_go 118 = .ok (.aload_n 0, 1) := by decide +kernel
theorem d_Mo_go_119 : decode b_Mo_go 119 = .ok (.invokevirtual 176, 3) := by decide +kernel
theorem d_Mo_go_122 : decode b_Mo_go 122 = .ok (.return_, 1) := by decide +kernel
theorem d_Mo_delete_0 : decode b_Mo_delete 0 = .ok (.aload_n 0, 1) := by decide +kernel
theorem d_Mo_delete_1 : decode b_Mo_delete 1 = .ok (.aload_n 0, 1) := by decide +kernel
theorem d_Mo_delete_2 : decode b_Mo_delete 2 = .ok (.iload_n 1, 1) := by decide +kernel
theorem d_Mo_delete_3 : decode b_Mo_delete 3 = .ok (.invokevirtual 149, 3) := by decide +kernel
theorem d_Mo_delete_6 : decode b_Mo_delete 6 = .ok (.ifCond .ne 7, 3) := by decide +kernel
theorem d_Mo_delete_9 : decode b_Mo_delete 9 = .ok (.iconst 1, 1) := by decide +kernel
theorem d_Mo_delete_10 : decode b_Mo_delete 10 = .ok (.goto 15, 3) := by decide +kernel
theorem d_Mo_delete_13 : decode b_Mo_delete 13 = .ok (.lload_n 2, 1) := by decide +kernel
theorem d_Mo_delete_14 : decode b_Mo_delete 14 = .ok (.lload 4, 2) := by decide +kernel
theorem d_Mo_delete_16 : decode b_Mo_delete 16 = .ok (.lcmp, 1) := by decide +kernel
theorem d_Mo_delete_17 : decode b_Mo_delete 17 = .ok (.ifCond .le 7, 3) := by decide +kernel
theorem d_Mo_delete_20 : decode b_Mo_delete 20 = .ok (.iconst 2, 1) := by decide +kernel
theorem d_Mo_delete_21 : decode b_Mo_delete 21 = .ok (.goto 4, 3) := by decide +kernel
theorem d_Mo_delete_24 : decode b_Mo_delete 24 = .ok (.iconst 0, 1) := by decide +kernel
theorem d_Mo_delete_25 : decode b_Mo_delete 25 = .ok (.putfield 101, 3) := by decide +kernel
theorem d_Mo_delete_28 : decode b_Mo_delete 28 = .ok (.aload_n 0, 1) := by decide +kernel
theorem d_Mo_delete_29 : decode b_Mo_delete 29 = .ok (.getfield 101, 3) := by decide +kernel
theorem d_Mo_delete_32 : decode b_Mo_delete 32 = .ok (.ifCond .le 5, 3) := by decide +kernel
theorem d_Mo_delete_35 : decode b_Mo_delete 35 = .ok (.iconst 0, 1) := by decide +kernel
theorem d_Mo_delete_36 : decode b_Mo_delete 36 = .ok (.ireturn, 1) := by decide +kernel
theorem d_Mo_delete_37 : decode b_Mo_delete 37 = .ok (.aload_n 0, 1) := by decide +kernel
theorem d_Mo_delete_38 : decode b_Mo_delete 38 = .ok (.iload_n 1, 1) := by decide +kernel
theorem d_Mo_delete_39 : decode b_Mo_delete 39 = .ok (.lload_n 2, 1) := by decide +kernel
theorem d_Mo_delete_40 : decode b_Mo_delete 40 = .ok (.lload 4, 2) := by decide +kernel
theorem d_Mo_delete_42 : decode b_Mo_delete 42 = .ok (.iconst 0, 1) := by decide +kernel
theorem d_Mo_delete_43 : decode b_Mo_delete 43 = .ok (.invokevirtual 179, 3) := by decide +kernel
theorem d_Mo_delete_46 : decode b_Mo_delete 46 = .ok (.istore 6, 2) := by decide +kernel
theorem d_Mo_delete_48 : decode b_Mo_delete 48 = .ok (.aload_n 0, 1) := by decide +kernel
theorem d_Mo_delete_49 : decode b_Mo_delete 49 = .ok (.iload_n 1, 1) := by decide +kernel
theorem d_Mo_delete_50 : decode b_Mo_delete 50 = .ok (.lload_n 2, 1) := by decide +kernel
theorem d_Mo_delete_51 : decode b_Mo_delete 51 = .ok (.lload 4, 2) := by decide +kernel
theorem d_Mo_delete_53 : decode b_Mo_delete 53 = .ok (.iconst 1, 1) := by decide +kernel
theorem d_Mo_delete_54 : decode b_Mo_delete 54 = .ok (.invokevirtual 179, 3) := by decide +kernel
theorem d_Mo_delete_57 : decode b_Mo_delete 57 = .ok (.ifCond .le 7, 3) := by decide +kernel
theorem d_Mo_delete_60 : decode b_Mo_delete 60 = .ok (.iconst 1, 1) := by decide +kernel
theorem d_Mo_delete_61 : decode b_Mo_delete 61 = .ok (.goto 4, 3) := by decide +kernel
theorem d_Mo_delete_64 : decode b_Mo_delete 64 = .ok (.iconst 0, 1) := by decide +kernel
theorem d_Mo_delete_65 : decode b_Mo_delete 65 = .ok (.istore 7, 2) := by decide +kernel
theorem d_Mo_delete_67 : decode b_Mo_delete 67 = .ok (.iload 7, 2) := by decide +kernel
theorem d_Mo_delete_69 : decode b_Mo_delete 69 = .ok (.ifCond .eq 19, 3) := by decide +kernel
theorem d_Mo_delete_72 : decode b_Mo_delete 72 = .ok (.aload_n 0, 1) := by decide +kernel
theorem d_Mo_delete_73 : decode b_Mo_delete 73 = .ok (.getfield 183, 3) := by decide +kernel
theorem d_Mo_delete_76 : decode b_Mo_delete 76 = .ok (.bipush 64, 2) := by decide +kernel
theorem d_Mo_delete_78 : decode b_Mo_delete 78 = .ok (.if_icmp .ne 10, 3) := by decide +kernel
theorem d_Mo_delete_81 : decode b_Mo_delete 81 = .ok (.aload_n 0, 1) := by decide +kernel
theorem d_Mo_delete_82 : decode b_Mo_delete 82 = .ok (.iconst 3, 1) := by decide +kernel
theorem d_Mo_delete_83 : decode b_Mo_delete 83 = .ok (.putfield 101, 3) := by decide +kernel
theorem d_Mo_delete_86 : decode b_Mo_delete 86 = .ok (.iconst 0, 1) := by decide +kernel
theorem d_Mo_delete_87 : decode b_Mo_delete 87 = .ok (.ireturn, 1) := by decide +kernel
theorem d_Mo_delete_88 : decode b_Mo_delete 88 = .ok (.aload_n 0, 1) := by decide +kernel
theorem d_Mo_delete_89 : decode b_Mo_delete 89 = .ok (.dup, 1) := by decide +kernel
theorem d_Mo_delete_90 : decode b_Mo_delete 90 = .ok (.getfield 183, 3) := by decide +kernel
theorem d_Mo_delete_93 : decode b_Mo_delete 93 = .ok (.iload 7, 2) := by decide +kernel
theorem d_Mo_delete_95 : decode b_Mo_delete 95 = .ok (.ifCond .eq 7, 3) := by decide +kernel
theorem d_Mo_delete_98 : decode b_Mo_delete 98 = .ok (.iconst 1, 1) := by decide +kernel
theorem d_Mo_delete_99 : decode b_Mo_delete 99 = .ok (.goto 4, 3) := by decide +kernel
theorem d_Mo_delete_102 : decode b_Mo_delete 102 = .ok (.iconst 0, 1) := by decide +kernel
theorem d_Mo_delete_103 : decode b_Mo_delete 103 = .ok (.iadd, 1) := by decide +kernel
theorem d_Mo_delete_104 : decode b_Mo_delete 104 = .ok (.putfield 183, 3) := by decide +kernel
theorem d_Mo_delete_107 : decode b_Mo_delete 107 = .ok (.aload_n 0, 1) := by decide +kernel
theorem d_Mo_delete_108 : decode b_Mo_delete 108 = .ok (.iload_n 1, 1) := by decide +kernel
theorem d_Mo_delete_109 : decode b_Mo_delete 109 = .ok (.lload_n 2, 1) := by decide +kernel
theorem d_Mo_delete_110 : decode b_Mo_delete 110 = .ok (.lload 4, 2) := by decide +kernel
theorem d_Mo_delete_112 : decode b_Mo_delete 112 = .ok (.invokevirtual 186, 3) := by decide +kernel
theorem d_Mo_delete_115 : decode b_Mo_delete 115 = .ok (.iload 6, 2) := by decide +kernel
theorem d_Mo_delete_117 : decode b_Mo_delete 117 = .ok (.ireturn, 1) := by decide +kernel
theorem d_Mo_retain_0 : decode b_Mo_retain 0 = .ok (.aload_n 0, 1) := by decide +kernel
theorem d_Mo_retain_1 : decode b_Mo_retain 1 = .ok (.lload_n 1, 1) := by decide +kernel
theorem d_Mo_retain_2 : decode b_Mo_retain 2 = .ok (.aload_n 0, 1) := by decide +kernel
theorem d_Mo_retain_3 : decode b_Mo_retain 3 = .ok (.getfield 157, 3) := by decide +kernel
theorem d_Mo_retain_6 : decode b_Mo_retain 6 = .ok (.lcmp, 1) := by decide +kernel
theorem d_Mo_retain_7 : decode b_Mo_retain 7 = .ok (.ifCond .lt 11, 3) := by decide +kernel
theorem d_Mo_retain_10 : decode b_Mo_retain 10 = .ok (.lload_n 1, 1) := by decide +kernel
theorem d_Mo_retain_11 : decode b_Mo_retain 11 = .ok (.ldc2_w 155, 3) := by decide +kernel
theorem d_Mo_retain_14 : decode b_Mo_retain 14 = .ok (.lcmp, 1) := by decide +kernel
theorem d_Mo_retain_15 : decode b_Mo_retain 15 = .ok (.ifCond .le 7, 3) := by decide +kernel
theorem d_Mo_retain_18 : decode b_Mo_retain 18 = .ok (.iconst 1, 1) := by decide +kernel
theorem d_Mo_retain_19 : decode b_Mo_retain 19 = .ok (.goto 4, 3) := by decide +kernel
theorem d_Mo_retain_22 : decode b_Mo_retain 22 = .ok (.iconst 0, 1) := by decide +kernel
theorem d_Mo_retain_23 : decode b_Mo_retain 23 = .ok (.putfield 101, 3) := by decide +kernel
theorem d_Mo_retain_26 : decode b_Mo_retain 26 = .ok (.aload_n 0, 1) := by decide +kernel
theorem d_Mo_retain_27 : decode b_Mo_retain 27 = .ok (.getfield 101, 3) := by decide +kernel
theorem d_Mo_retain_30 : decode b_Mo_retain 30 = .ok (.ifCond .le 5, 3) := by decide +kernel
theorem d_Mo_retain_33 : decode b_Mo_retain 33 = .ok (.iconst 0, 1) := by decide +kernel
theorem d_Mo_retain_34 : decode b_Mo_retain 34 = .ok (.ireturn, 1) := by decide +kernel
theorem d_Mo_retain_35 : decode b_Mo_retain 35 = .ok (.aload_n 0, 1) := by decide +kernel
theorem d_Mo_retain_36 : decode b_Mo_retain 36 = .ok (.iconst (-1), 1) := by decide +kernel
theorem d_Mo_retain_37 : decode b_Mo_retain 37 = .ok (.lconst 0, 1) := by decide +kernel
theorem d_Mo_retain_38 : decode b_Mo_retain 38 = .ok (.lload_n 1, 1) := by decide +kernel
theorem d_Mo_retain_39 : decode b_Mo_retain 39 = .ok (.lconst 1, 1) := by decide +kernel
theorem d_Mo_retain_40 : decode b_Mo_retain 40 = .ok (.lsub, 1) := by decide +kernel
theorem d_Mo_retain_41 : decode b_Mo_retain 41 = .ok (.iconst 0, 1) := by decide +kernel
theorem d_Mo_retain_42 : decode b_Mo_retain 42 = .ok (.invokevirtual 179, 3) := by decide +kernel
theorem d_Mo_retain_45 : decode b_Mo_retain 45 = .ok (.istore_n 3, 1) := by decide +kernel
theorem d_Mo_retain_46 : decode b_Mo_retain 46 = .ok (.aload_n 0, 1) := by decide +kernel
theorem d_Mo_retain_47 : decode b_Mo_retain 47 = .ok (.iconst (-1), 1) := by decide +kernel
theorem d_Mo_retain_48 : decode b_Mo_retain 48 = .ok (.lconst 0, 1) := by decide +kernel
theorem d_Mo_retain_49 : decode b_Mo_retain 49 = .ok (.lload_n 1, 1) := by decide +kernel
theorem d_Mo_retain_50 : decode b_Mo_retain 50 = .ok (.lconst 1, 1) := by decide +kernel
theorem d_Mo_retain_51 : decode b_Mo_retain 51 = .ok (.lsub, 1) := by decide +kernel
theorem d_Mo_retain_52 : decode b_Mo_retain 52 = .ok (.invokevirtual 186, 3) := by decide +kernel
theorem d_Mo_retain_55 : decode b_Mo_retain 55 = .ok (.aload_n 0, 1) := by decide +kernel
theorem d_Mo_retain_56 : decode b_Mo_retain 56 = .ok (.lload_n 1, 1) := by decide +kernel
theorem d_Mo_retain_57 : decode b_Mo_retain 57 = .ok (.putfield 157, 3) := by decide +kernel
theorem d_Mo_retain_60 : decode b_Mo_retain 60 = .ok (.iload_n 3, 1) := by decide +kernel
theorem d_Mo_retain_61 : decode b_Mo_retain 61 = .ok (.ireturn, 1) := by decide +kernel
theorem d_Mo_pack_0 : decode b_Mo_pack 0 = .ok (.aload_n 0, 1) := by decide +kernel
theorem d_Mo_pack_1 : decode b_Mo_pack 1 = .ok (.aload_n 0, 1) := by decide +kernel
theorem d_Mo_pack_2 : decode b_Mo_pack 2 = .ok (.getfield 161, 3) := by decide +kernel
theorem d_Mo_pack_5 : decode b_Mo_pack 5 = .ok (.ifCond .le 16, 3) := by decide +kernel
theorem d_Mo_pack_8 : decode b_Mo_pack 8 = .ok (.aload_n 0, 1) := by decide +kernel
theorem d_Mo_pack_9 : decode b_Mo_pack 9 = .ok (.getfield 189, 3) := by decide +kernel
theorem d_Mo_pack_12 : decode b_Mo_pack 12 = .ok (.bipush 32, 2) := by decide +kernel
theorem d_Mo_pack_14 : decode b_Mo_pack 14 = .ok (.if_icmp .ne 7, 3) := by decide +kernel
theorem d_Mo_pack_17 : decode b_Mo_pack 17 = .ok (.iconst 1, 1) := by decide +kernel
theorem d_Mo_pack_18 : decode b_Mo_pack 18 = .ok (.goto 4, 3) := by decide +kernel
theorem d_Mo_pack_21 : decode b_Mo_pack 21 = .ok (.iconst 0, 1) := by decide +kernel
theorem d_Mo_pack_22 : decode b_Mo_pack 22 = .ok (.putfield 101, 3) := by decide +kernel
theorem d_Mo_pack_25 : decode b_Mo_pack 25 = .ok (.aload_n 0, 1) := by decide +kernel
theorem d_Mo_pack_26 : decode b_Mo_pack 26 = .ok (.getfield 101, 3) := by decide +kernel
theorem d_Mo_pack_29 : decode b_Mo_pack 29 = .ok (.ifCond .gt 10, 3) := by decide +kernel
theorem d_Mo_pack_32 : decode b_Mo_pack 32 = .ok (.aload_n 0, 1) := by decide +kernel
theorem d_Mo_pack_33 : decode b_Mo_pack 33 = .ok (.getfield 161, 3) := by decide +kernel
theorem d_Mo_pack_36 : decode b_Mo_pack 36 = .ok (.ifCond .ne 5, 3) := by decide +kernel
theorem d_Mo_pack_39 : decode b_Mo_pack 39 = .ok (.iconst 0, 1) := by decide +kernel
theorem d_Mo_pack_40 : decode b_Mo_pack 40 = .ok (.ireturn, 1) := by decide +kernel
theorem d_Mo_pack_41 : decode b_Mo_pack 41 = .ok (.iconst 0, 1) := by decide +kernel
theorem d_Mo_pack_42 : decode b_Mo_pack 42 = .ok (.istore_n 1, 1) := by decide +kernel
theorem d_Mo_pack_43 : decode b_Mo_pack 43 = .ok (.iload_n 1, 1) := by decide +kernel
theorem d_Mo_pack_44 : decode b_Mo_pack 44 = .ok (.aload_n 0, 1) := by decide +kernel
theorem d_Mo_pack_45 : decode b_Mo_pack 45 = .ok (.getfield 152, 3) := by decide +kernel
theorem d_Mo_pack_48 : decode b_Mo_pack 48 = .ok (.if_icmp .ge 34, 3) := by decide +kernel
theorem d_Mo_pack_51 : decode b_Mo_pack 51 = .ok (.aload_n 0, 1) := by decide +kernel
theorem d_Mo_pack_52 : decode b_Mo_pack 52 = .ok (.getfield 35, 3) := by decide +kernel
theorem d_Mo_pack_55 : decode b_Mo_pack 55 = .ok (.iload_n 1, 1) := by decide +kernel
theorem d_Mo_pack_56 : decode b_Mo_pack 56 = .ok (.aload_n 0, 1) := by decide +kernel
theorem d_Mo_pack_57 : decode b_Mo_pack 57 = .ok (.getfield 35, 3) := by decide +kernel
theorem d_Mo_pack_60 : decode b_Mo_pack 60 = .ok (.iload_n 1, 1) := by decide +kernel
theorem d_Mo_pack_61 : decode b_Mo_pack 61 = .ok (.baload, 1) := by decide +kernel
theorem d_Mo_pack_62 : decode b_Mo_pack 62 = .ok (.ifCond .ne 7, 3) := by decide +kernel
theorem d_Mo_pack_65 : decode b_Mo_pack 65 = .ok (.iconst 1, 1) := by decide +kernel
theorem d_Mo_pack_66 : decode b_Mo_pack 66 = .ok (.goto 9, 3) := by decide +kernel
theorem d_Mo_pack_69 : decode b_Mo_pack 69 = .ok (.aload_n 0, 1) := by decide +kernel
theorem d_Mo_pack_70 : decode b_Mo_pack 70 = .ok (.getfield 35, 3) := by decide +kernel
theorem d_Mo_pack_73 : decode b_Mo_pack 73 = .ok (.iload_n 1, 1) := by decide +kernel
theorem d_Mo_pack_74 : decode b_Mo_pack 74 = .ok (.baload, 1) := by decide +kernel
theorem d_Mo_pack_75 : decode b_Mo_pack 75 = .ok (.bastore, 1) := by decide +kernel
theorem d_Mo_pack_76 : decode b_Mo_pack 76 = .ok (.iinc 1 1, 3) := by decide +kernel
theorem d_Mo_pack_79 : decode b_Mo_pack 79 = .ok (.goto (-36), 3) := by decide +kernel
theorem d_Mo_pack_82 : decode b_Mo_pack 82 = .ok (.aload_n 0, 1) := by decide +kernel
theorem d_Mo_pack_83 : decode b_Mo_pack 83 = .ok (.getfield 161, 3) := by decide +kernel
theorem d_Mo_pack_86 : decode b_Mo_pack 86 = .ok (.istore_n 1, 1) := by decide +kernel
theorem d_Mo_pack_87 : decode b_Mo_pack 87 = .ok (.aload_n 0, 1) := by decide +kernel
theorem d_Mo_pack_88 : decode b_Mo_pack 88 = .ok (.iconst 0, 1) := by decide +kernel
theorem d_Mo_pack_89 : decode b_Mo_pack 89 = .ok (.putfield 161, 3) := by decide +kernel
theorem d_Mo_pack_92 : decode b_Mo_pack 92 = .ok (.aload_n 0, 1) := by decide +kernel
theorem d_Mo_pack_93 : decode b_Mo_pack 93 = .ok (.dup, 1) := by decide +kernel
theorem d_Mo_pack_94 : decode b_Mo_pack 94 = .ok (.getfield 189, 3) := by decide +kernel
theorem d_Mo_pack_97 : decode b_Mo_pack 97 = .ok (.iconst 1, 1) := by decide +kernel
theorem d_Mo_pack_98 : decode b_Mo_pack 98 = .ok (.iadd, 1) := by decide +kernel
theorem d_Mo_pack_99 : decode b_Mo_pack 99 = .ok (.putfield 189, 3) := by decide +kernel
theorem d_Mo_pack_102 : decode b_Mo_pack 102 = .ok (.iload_n 1, 1) := by decide +kernel
theorem d_Mo_pack_103 : decode b_Mo_pack 103 = .ok (.ireturn, 1) := by decide +kernel
theorem d_Mo_count_0 : decode b_Mo_count 0 = .ok (.aload_n 0, 1) := by decide +kernel
theorem d_Mo_count_1 : decode b_Mo_count 1 = .ok (.iload_n 1, 1) := by decide +kernel
theorem d_Mo_count_2 : decode b_Mo_count 2 = .ok (.ifCond .lt 8, 3) := by decide +kernel
theorem d_Mo_count_5 : decode b_Mo_count 5 = .ok (.iload_n 1, 1) := by decide +kernel
theorem d_Mo_count_6 : decode b_Mo_count 6 = .ok (.iconst 4, 1) := by decide +kernel
theorem d_Mo_count_7 : decode b_Mo_count 7 = .ok (.if_icmp .le 7, 3) := by decide +kernel
theorem d_Mo_count_10 : decode b_Mo_count 10 = .ok (.iconst 1, 1) := by decide +kernel
theorem d_Mo_count_11 : decode b_Mo_count 11 = .ok (.goto 4, 3) := by decide +kernel
theorem d_Mo_count_14 : decode b_Mo_count 14 = .ok (.iconst 0, 1) := by decide +kernel
theorem d_Mo_count_15 : decode b_Mo_count 15 = .ok (.putfield 101, 3) := by decide +kernel
theorem d_Mo_count_18 : decode b_Mo_count 18 = .ok (.aload_n 0, 1) := by decide +kernel
theorem d_Mo_count_19 : decode b_Mo_count 19 = .ok (.getfield 101, 3) := by decide +kernel
theorem d_Mo_count_22 : decode b_Mo_count 22 = .ok (.ifCond .le 7, 3) := by decide +kernel
theorem d_Mo_count_25 : decode b_Mo_count 25 = .ok (.iconst 0, 1) := by decide +kernel
theorem d_Mo_count_26 : decode b_Mo_count 26 = .ok (.goto 54, 3) := by decide +kernel
theorem d_Mo_count_29 : decode b_Mo_count 29 = .ok (.iload_n 1, 1) := by decide +kernel
theorem d_Mo_count_30 : decode b_Mo_count 30 = .ok (.ifCond .ne 10, 3) := by decide +kernel
theorem d_Mo_count_33 : decode b_Mo_count 33 = .ok (.aload_n 0, 1) := by decide +kernel
theorem d_Mo_count_34 : decode b_Mo_count 34 = .ok (.getfield 133, 3) := by decide +kernel
theorem d_Mo_count_37 : decode b_Mo_count 37 = .ok (.goto 43, 3) := by decide +kernel
theorem d_Mo_count_40 : decode b_Mo_count 40 = .ok (.iload_n 1, 1) := by decide +kernel
theorem d_Mo_count_41 : decode b_Mo_count 41 = .ok (.iconst 1, 1) := by decide +kernel
theorem d_Mo_count_42 : decode b_Mo_count 42 = .ok (.if_icmp .ne 10, 3) := by decide +kernel
theorem d_Mo_count_45 : decode b_Mo_count 45 = .ok (.aload_n 0, 1) := by decide +kernel
theorem d_Mo_count_46 : decode b_Mo_count 46 = .ok (.getfield 161, 3) := by decide +kernel
theorem d_Mo_count_49 : decode b_Mo_count 49 = .ok (.goto 31, 3) := by decide +kernel
theorem d_Mo_count_52 : decode b_Mo_count 52 = .ok (.iload_n 1, 1) := by decide +kernel
theorem d_Mo_count_53 : decode b_Mo_count 53 = .ok (.iconst 2, 1) := by decide +kernel
theorem d_Mo_count_54 : decode b_Mo_count 54 = .ok (.if_icmp .ne 10, 3) := by decide +kernel
theorem d_Mo_count_57 : decode b_Mo_count 57 = .ok (.aload_n 0, 1) := by decide +kernel
theorem d_Mo_count_58 : decode b_Mo_count 58 = .ok (.getfield 189, 3) := by decide +kernel
theorem d_Mo_count_61 : decode b_Mo_count 61 = .ok (.goto 19, 3) := by decide +kernel
theorem d_Mo_count_64 : decode b_Mo_count 64 = .ok (.iload_n 1, 1) := by decide +kernel
theorem d_Mo_count_65 : decode b_Mo_count 65 = .ok (.iconst 3, 1) := by decide +kernel
theorem d_Mo_count_66 : decode b_Mo_count 66 = .ok (.if_icmp .ne 10, 3) := by decide +kernel
theorem d_Mo_count_69 : decode b_Mo_count 69 = .ok (.aload_n 0, 1) := by decide +kernel
theorem d_Mo_count_70 : decode b_Mo_count 70 = .ok (.getfield 183, 3) := by decide +kernel
theorem d_Mo_count_73 : decode b_Mo_count 73 = .ok (.goto 7, 3) := by decide +kernel
theorem d_Mo_count_76 : decode b_Mo_count 76 = .ok (.aload_n 0, 1) := by decide +kernel
theorem d_Mo_count_77 : decode b_Mo_count 77 = .ok (.getfield 152, 3) := by decide +kernel
theorem d_Mo_count_80 : decode b_Mo_count 80 = .ok (.ireturn, 1) := by decide +kernel
theorem d_Mo_isDigit_0 : decode b_Mo_isDigit 0 = .ok (.iload_n 0, 1) := by decide +kernel
theorem d_Mo_isDigit_1 : decode b_Mo_isDigit 1 = .ok (.bipush 48, 2) := by decide +kernel
theorem d_Mo_isDigit_3 : decode b_Mo_isDigit 3 = .ok (.if_icmp .lt 13, 3) := by decide +kernel
theorem d_Mo_isDigit_6 : decode b_Mo_isDigit 6 = .ok (.iload_n 0, 1) := by decide +kernel
theorem d_Mo_isDigit_7 : decode b_Mo_isDigit 7 = .ok (.bipush 57, 2) := by decide +kernel
theorem d_Mo_isDigit_9 : decode b_Mo_isDigit 9 = .ok (.if_icmp .gt 7, 3) := by decide +kernel
theorem d_Mo_isDigit_12 : decode b_Mo_isDigit 12 = .ok (.iconst 1, 1) := by decide +kernel
theorem d_Mo_isDigit_13 : decode b_Mo_isDigit 13 = .ok (.goto 4, 3) := by decide +kernel
theorem d_Mo_isDigit_16 : decode b_Mo_isDigit 16 = .ok (.iconst 0, 1) := by decide +kernel
theorem d_Mo_isDigit_17 : decode b_Mo_isDigit 17 = .ok (.ireturn, 1) := by decide +kernel
theorem d_Mo_isLetter_0 : decode b_Mo_isLetter 0 = .ok (.iload_n 0, 1) := by decide +kernel
theorem d_Mo_isLetter_1 : decode b_Mo_isLetter 1 = .ok (.bipush 97, 2) := by decide +kernel
theorem d_Mo_isLetter_3 : decode b_Mo_isLetter 3 = .ok (.if_icmp .lt 9, 3) := by decide +kernel
theorem d_Mo_isLetter_6 : decode b_Mo_isLetter 6 = .ok (.iload_n 0, 1) := by decide +kernel
theorem d_Mo_isLetter_7 : decode b_Mo_isLetter 7 = .ok (.bipush 122, 2) := by decide +kernel
theorem d_Mo_isLetter_9 : decode b_Mo_isLetter 9 = .ok (.if_icmp .le 21, 3) := by decide +kernel
theorem d_Mo_isLetter_12 : decode b_Mo_isLetter 12 = .ok (.iload_n 0, 1) := by decide +kernel
theorem d_Mo_isLetter_13 : decode b_Mo_isLetter 13 = .ok (.bipush 65, 2) := by decide +kernel
theorem d_Mo_isLetter_15 : decode b_Mo_isLetter 15 = .ok (.if_icmp .lt 9, 3) := by decide +kernel
theorem d_Mo_isLetter_18 : decode b_Mo_isLetter 18 = .ok (.iload_n 0, 1) := by decide +kernel
theorem d_Mo_isLetter_19 : decode b_Mo_isLetter 19 = .ok (.bipush 90, 2) := by decide +kernel
theorem d_Mo_isLetter_21 : decode b_Mo_isLetter 21 = .ok (.if_icmp .le 9, 3) := by decide +kernel
theorem d_Mo_isLetter_24 : decode b_Mo_isLetter 24 = .ok (.iload_n 0, 1) := by decide +kernel
theorem d_Mo_isLetter_25 : decode b_Mo_isLetter 25 = .ok (.bipush 95, 2) := by decide +kernel
theorem d_Mo_isLetter_27 : decode b_Mo_isLetter 27 = .ok (.if_icmp .ne 7, 3) := by decide +kernel
theorem d_Mo_isLetter_30 : decode b_Mo_isLetter 30 = .ok (.iconst 1, 1) := by decide +kernel
theorem d_Mo_isLetter_31 : decode b_Mo_isLetter 31 = .ok (.goto 4, 3) := by decide +kernel
theorem d_Mo_isLetter_34 : decode b_Mo_isLetter 34 = .ok (.iconst 0, 1) := by decide +kernel
theorem d_Mo_isLetter_35 : decode b_Mo_isLetter 35 = .ok (.ireturn, 1) := by decide +kernel
theorem d_Mo_at_0 : decode b_Mo_at 0 = .ok (.iload_n 1, 1) := by decide +kernel
theorem d_Mo_at_1 : decode b_Mo_at 1 = .ok (.ifCond .lt 24, 3) := by decide +kernel
theorem d_Mo_at_4 : decode b_Mo_at 4 = .ok (.iload_n 1, 1) := by decide +kernel
theorem d_Mo_at_5 : decode b_Mo_at 5 = .ok (.aload_n 0, 1) := by decide +kernel
theorem d_Mo_at_6 : decode b_Mo_at 6 = .ok (.getfield 105, 3) := by decide +kernel
theorem d_Mo_at_9 : decode b_Mo_at 9 = .ok (.if_icmp .ge 16, 3) := by decide +kernel
theorem d_Mo_at_12 : decode b_Mo_at 12 = .ok (.aload_n 0, 1) := by decide +kernel
theorem d_Mo_at_13 : decode b_Mo_at 13 = .ok (.getfield 8, 3) := by decide +kernel
theorem d_Mo_at_16 : decode b_Mo_at 16 = .ok (.iload_n 1, 1) := by decide +kernel
theorem d_Mo_at_17 : decode b_Mo_at 17 = .ok (.baload, 1) := by decide +kernel
theorem d_Mo_at_18 : decode b_Mo_at 18 = .ok (.sipush 255, 3) := by decide +kernel
theorem d_Mo_at_21 : decode b_Mo_at 21 = .ok (.iand, 1) := by decide +kernel
theorem d_Mo_at_22 : decode b_Mo_at 22 = .ok (.goto 4, 3) := by decide +kernel
theorem d_Mo_at_25 : decode b_Mo_at 25 = .ok (.iconst 0, 1) := by decide +kernel
theorem d_Mo_at_26 : decode b_Mo_at 26 = .ok (.ireturn, 1) := by decide +kernel
theorem d_Mo_next_0 : decode b_Mo_next 0 = .ok (.aload_n 0, 1) := by decide +kernel
theorem d_Mo_next_1 : decode b_Mo_next 1 = .ok (.getfield 192, 3) := by decide +kernel
theorem d_Mo_next_4 : decode b_Mo_next 4 = .ok (.aload_n 0, 1) := by decide +kernel
theorem d_Mo_next_5 : decode b_Mo_next 5 = .ok (.getfield 105, 3) := by decide +kernel
theorem d_Mo_next_8 : decode b_Mo_next 8 = .ok (.if_icmp .ge 30, 3) := by decide +kernel
theorem d_Mo_next_11 : decode b_Mo_next 11 = .ok (.aload_n 0, 1) := by decide +kernel
theorem d_Mo_next_12 : decode b_Mo_next 12 = .ok (.getfield 8, 3) := by decide +kernel
theorem d_Mo_next_15 : decode b_Mo_next 15 = .ok (.aload_n 0, 1) := by decide +kernel
theorem d_Mo_next_16 : decode b_Mo_next 16 = .ok (.getfield 192, 3) := by decide +kernel
theorem d_Mo_next_19 : decode b_Mo_next 19 = .ok (.baload, 1) := by decide +kernel
theorem d_Mo_next_20 : decode b_Mo_next 20 = .ok (.bipush 32, 2) := by decide +kernel
theorem d_Mo_next_22 : decode b_Mo_next 22 = .ok (.if_icmp .ne 16, 3) := by decide +kernel
theorem d_Mo_next_25 : decode b_Mo_next 25 = .ok (.aload_n 0, 1) := by decide +kernel
theorem d_Mo_next_26 : decode b_Mo_next 26 = .ok (.dup, 1) := by decide +kernel
theorem d_Mo_next_27 : decode b_Mo_next 27 = .ok (.getfield 192, 3) := by decide +kernel
theorem d_Mo_next_30 : decode b_Mo_next 30 = .ok (.iconst 1, 1) := by decide +kernel
theorem d_Mo_next_31 : decode b_Mo_next 31 = .ok (.iadd, 1) := by decide +kernel
theorem d_Mo_next_32 : decode b_Mo_next 32 = .ok (.putfield 192, 3) := by decide +kernel
theorem d_Mo_next_35 : decode b_Mo_next 35 = .ok (.goto (-35), 3) := by decide +kernel
theorem d_Mo_next_38 : decode b_Mo_next 38 = .ok (.aload_n 0, 1) := by decide +kernel
theorem d_Mo_next_39 : decode b_Mo_next 39 = .ok (.aload_n 0, 1) := by decide +kernel
theorem d_Mo_next_40 : decode b_Mo_next 40 = .ok (.getfield 192, 3) := by decide +kernel
theorem d_Mo_next_43 : decode b_Mo_next 43 = .ok (.putfield 195, 3) := by decide +kernel
theorem d_Mo_next_46 : decode b_Mo_next 46 = .ok (.aload_n 0, 1) := by decide +kernel
theorem d_Mo_next_47 : decode b_Mo_next 47 = .ok (.aload_n 0, 1) := by decide +kernel
theorem d_Mo_next_48 : decode b_Mo_next 48 = .ok (.getfield 195, 3) := by decide +kernel
theorem d_Mo_next_51 : decode b_Mo_next 51 = .ok (.invokevirtual 198, 3) := by decide +kernel
theorem d_Mo_next_54 : decode b_Mo_next 54 = .ok (.istore_n 1, 1) := by decide +kernel
theorem d_Mo_next_55 : decode b_Mo_next 55 = .ok (.aload_n 0, 1) := by decide +kernel
theorem d_Mo_next_56 : decode b_Mo_next 56 = .ok (.getfield 195, 3) := by decide +kernel
theorem d_Mo_next_59 : decode b_Mo_next 59 = .ok (.aload_n 0, 1) := by decide +kernel
theorem d_Mo_next_60 : decode b_Mo_next 60 = .ok (.getfield 105, 3) := by decide +kernel
theorem d_Mo_next_63 : decode b_Mo_next 63 = .ok (.if_icmp .lt 11, 3) := by decide +kernel
theorem d_Mo_next_66 : decode b_Mo_next 66 = .ok (.aload_n 0, 1) := by decide +kernel
theorem d_Mo_next_67 : decode b_Mo_next 67 = .ok (.iconst 0, 1) := by decide +kernel
theorem d_Mo_next_68 : decode b_Mo_next 68 = .ok (.putfield 201, 3) := by decide +kernel
theorem d_Mo_next_71 : decode b_Mo_next 71 = .ok (.goto 204, 3) := by decide +kernel
theorem d_Mo_next_74 : decode b_Mo_next 74 = .ok (.iload_n 1, 1) := by decide +kernel
theorem d_Mo_next_75 : decode b_Mo_next 75 = .ok (.invokestatic 204, 3) := by decide +kernel
theorem d_Mo_next_78 : decode b_Mo_next 78 = .ok (.ifCond .eq 8, 3) := by decide +kernel
theorem d_Mo_next_81 : decode b_Mo_next 81 = .ok (.aload_n 0, 1) := by decide +kernel
theorem d_Mo_next_82 : decode b_Mo_next 82 = .ok (.invokevirtual 207, 3) := by decide +kernel
theorem d_Mo_next_85 : decode b_Mo_next 85 = .ok (.ireturn, 1) := by decide +kernel
theorem d_Mo_next_86 : decode b_Mo_next 86 = .ok (.iload_n 1, 1) := by decide +kernel
theorem d_Mo_next_87 : decode b_Mo_next 87 = .ok (.invokestatic 210, 3) := by decide +kernel
theorem d_Mo_next_90 : decode b_Mo_next 90 = .ok (.ifCond .eq 49, 3) := by decide +kernel
theorem d_Mo_next_93 : decode b_Mo_next 93 = .ok (.aload_n 0, 1) := by decide +kernel
theorem d_Mo_next_94 : decode b_Mo_next 94 = .ok (.iconst 2, 1) := by decide +kernel
theorem d_Mo_next_95 : decode b_Mo_next 95 = .ok (.putfield 201, 3) := by decide +kernel
theorem d_Mo_next_98 : decode b_Mo_next 98 = .ok (.aload_n 0, 1) := by decide +kernel
theorem d_Mo_next_99 : decode b_Mo_next 99 = .ok (.aload_n 0, 1) := by decide +kernel
theorem d_Mo_next_100 : decode b_Mo_next 100 = .ok (.getfield 192, 3) := by decide +kernel
theorem d_Mo_next_103 : decode b_Mo_next 103 = .ok (.invokevirtual 198, 3) := by decide +kernel
theorem d_Mo_next_106 : decode b_Mo_next 106 = .ok (.invokestatic 210, 3) := by decide +kernel
theorem d_Mo_next_109 : decode b_Mo_next 109 = .ok (.ifCond .ne 17, 3) := by decide +kernel
theorem d_Mo_next_112 : decode b_Mo_next 112 = .ok (.aload_n 0, 1) := by decide +kernel
theorem d_Mo_next_113 : decode b_Mo_next 113 = .ok (.aload_n 0, 1) := by decide +kernel
theorem d_Mo_next_114 : decode b_Mo_next 114 = .ok (.getfield 192, 3) := by decide +kernel
theorem d_Mo_next_117 : decode b_Mo_next 117 = .ok (.invokevirtual 198, 3) := by decide +kernel
theorem d_Mo_next_120 : decode b_Mo_next 120 = .ok (.invokestatic 204, 3) := by decide +kernel
theorem d_Mo_next_123 : decode b_Mo_next 123 = .ok (.ifCond .eq 152, 3) := by decide +kernel
theorem d_Mo_next_126 : decode b_Mo_next 126 = .ok (.aload_n 0, 1) := by decide +kernel
theorem d_Mo_next_127 : decode b_Mo_next 127 = .ok (.dup, 1) := by decide +kernel
theorem d_Mo_next_128 : decode b_Mo_next 128 = .ok (.getfield 192, 3) := by decide +kernel
theorem d_Mo_next_131 : decode b_Mo_next 131 = .ok (.iconst 1, 1) := by decide +kernel
theorem d_Mo_next_132 : decode b_Mo_next 132 = .ok (.iadd, 1) := by decide +kernel
theorem d_Mo_next_133 : decode b_Mo_next 133 = .ok (.putfield 192, 3) := by decide +kernel
theorem d_Mo_next_136 : decode b_Mo_next 136 = .ok (.goto (-38), 3) := by decide +kernel
theorem d_Mo_next_139 : decode b_Mo_next 139 = .ok (.iload_n 1, 1) := by decide +kernel
theorem d_Mo_next_140 : decode b_Mo_next 140 = .ok (.bipush 34, 2) := by decide +kernel
theorem d_Mo_next_142 : decode b_Mo_next 142 = .ok (.if_icmp .ne 117, 3) := by decide +kernel
theorem d_Mo_next_145 : decode b_Mo_next 145 = .ok (.aload_n 0, 1) := by decide +kernel
theorem d_Mo_next_146 : decode b_Mo_next 146 = .ok (.iconst 3, 1) := by decide +kernel
theorem d_Mo_next_147 : decode b_Mo_next 147 = .ok (.putfield 201, 3) := by decide +kernel
theorem d_Mo_next_150 : decode b_Mo_next 150 = .ok (.aload_n 0, 1) := by decide +kernel
theorem d_Mo_next_151 : decode b_Mo_next 151 = .ok (.dup, 1) := by decide +kernel
theorem d_Mo_next_152 : decode b_Mo_next 152 = .ok (.getfield 192, 3) := by decide +kernel
theorem d_Mo_next_155 : decode b_Mo_next 155 = .ok (.iconst 1, 1) := by decide +kernel
theorem d_Mo_next_156 : decode b_Mo_next 156 = .ok (.iadd, 1) := by decide +kernel
theorem d_Mo_next_157 : decode b_Mo_next 157 = .ok (.putfield 192, 3) := by decide +kernel
theorem d_Mo_next_160 : decode b_Mo_next 160 = .ok (.aload_n 0, 1) := by decide +kernel
theorem d_Mo_next_161 : decode b_Mo_next 161 = .ok (.getfield 192, 3) := by decide +kernel
theorem d_Mo_next_164 : decode b_Mo_next 164 = .ok (.aload_n 0, 1) := by decide +kernel
theorem d_Mo_next_165 : decode b_Mo_next 165 = .ok (.getfield 105, 3) := by decide +kernel
theorem d_Mo_next_168 : decode b_Mo_next 168 = .ok (.if_icmp .ge 55, 3) := by decide +kernel
theorem d_Mo_next_171 : decode b_Mo_next 171 = .ok (.aload_n 0, 1) := by decide +kernel
theorem d_Mo_next_172 : decode b_Mo_next 172 = .ok (.aload_n 0, 1) := by decide +kernel
theorem d_Mo_next_173 : decode b_Mo_next 173 = .ok (.getfield 192, 3) := by decide +kernel
theorem d_Mo_next_176 : decode b_Mo_next 176 = .ok (.invokevirtual 198, 3) := by decide +kernel
theorem d_Mo_next_179 : decode b_Mo_next 179 = .ok (.bipush 31, 2) := by decide +kernel
theorem d_Mo_next_181 : decode b_Mo_next 181 = .ok (.if_icmp .le 42, 3) := by decide +kernel
theorem d_Mo_next_184 : decode b_Mo_next 184 = .ok (.aload_n 0, 1) := by decide +kernel
theorem d_Mo_next_185 : decode b_Mo_next 185 = .ok (.aload_n 0, 1) := by decide +kernel
theorem d_Mo_next_186 : decode b_Mo_next 186 = .ok (.getfield 192, 3) := by decide +kernel
theorem d_Mo_next_189 : decode b_Mo_next 189 = .ok (.invokevirtual 198, 3) := by decide +kernel
theorem d_Mo_next_192 : decode b_Mo_next 192 = .ok (.bipush 127, 2) := by decide +kernel
theorem d_Mo_next_194 : decode b_Mo_next 194 = .ok (.if_icmp .ge 29, 3) := by decide +kernel
theorem d_Mo_next_197 : decode b_Mo_next 197 = .ok (.aload_n 0, 1) := by decide +kernel
theorem d_Mo_next_198 : decode b_Mo_next 198 = .ok (.aload_n 0, 1) := by decide +kernel
theorem d_Mo_next_199 : decode b_Mo_next 199 = .ok (.getfield 192, 3) := by decide +kernel
theorem d_Mo_next_202 : decode b_Mo_next 202 = .ok (.invokevirtual 198, 3) := by decide +kernel
theorem d_Mo_next_205 : decode b_Mo_next 205 = .ok (.bipush 34, 2) := by decide +kernel
theorem d_Mo_next_207 : decode b_Mo_next 207 = .ok (.if_icmp .eq 16, 3) := by decide +kernel
theorem d_Mo_next_210 : decode b_Mo_next 210 = .ok (.aload_n 0, 1) := by decide +kernel
theorem d_Mo_next_211 : decode b_Mo_next 211 = .ok (.dup, 1) := by decide +kernel
theorem d_Mo_next_212 : decode b_Mo_next 212 = .ok (.getfield 192, 3) := by decide +kernel
theorem d_Mo_next_215 : decode b_Mo_next 215 = .ok (.iconst 1, 1) := by decide +kernel
theorem d_Mo_next_216 : decode b_Mo_next 216 = .ok (.iadd, 1) := by decide +kernel
theorem d_Mo_next_217 : decode b_Mo_next 217 = .ok (.putfield 192, 3) := by decide +kernel
theorem d_Mo_next_220 : decode b_Mo_next 220 = .ok (.goto (-60), 3) := by decide +kernel
theorem d_Mo_next_223 : decode b_Mo_next 223 = .ok (.aload_n 0, 1) := by decide +kernel
theorem d_Mo_next_224 : decode b_Mo_next 224 = .ok (.aload_n 0, 1) := by decide +kernel
theorem d_Mo_next_225 : decode b_Mo_next 225 = .ok (.getfield 192, 3) := by decide +kernel
theorem d_Mo_next_228 : decode b_Mo_next 228 = .ok (.invokevirtual 198, 3) := by decide +kernel
theorem d_Mo_next_231 : decode b_Mo_next 231 = .ok (.bipush 34, 2) := by decide +kernel
theorem d_Mo_next_233 : decode b_Mo_next 233 = .ok (.if_icmp .eq 13, 3) := by decide +kernel
theorem d_Mo_next_236 : decode b_Mo_next 236 = .ok (.aload_n 0, 1) := by decide +kernel
theorem d_Mo_next_237 : decode b_Mo_next 237 = .ok (.iconst 1, 1) := by decide +kernel
theorem d_Mo_next_238 : decode b_Mo_next 238 = .ok (.aload_n 0, 1) := by decide +kernel
theorem d_Mo_next_239 : decode b_Mo_next 239 = .ok (.getfield 195, 3) := by decide +kernel
theorem d_Mo_next_242 : decode b_Mo_next 242 = .ok (.invokevirtual 125, 3) := by decide +kernel
theorem d_Mo_next_245 : decode b_Mo_next 245 = .ok (.ireturn, 1) := by decide +kernel
theorem d_Mo_next_246 : decode b_Mo_next 246 = .ok (.aload_n 0, 1) := by decide +kernel
theorem d_Mo_next_247 : decode b_Mo_next 247 = .ok (.dup, 1) := by decide +kernel
theorem d_Mo_next_248 : decode b_Mo_next 248 = .ok (.getfield 192, 3) := by decide +kernel
theorem d_Mo_next_251 : decode b_Mo_next 251 = .ok (.iconst 1, 1) := by decide +kernel
theorem d_Mo_next_252 : decode b_Mo_next 252 = .ok (.iadd, 1) := by decide +kernel
theorem d_Mo_next_253 : decode b_Mo_next 253 = .ok (.putfield 192, 3) := by decide +kernel
theorem d_Mo_next_256 : decode b_Mo_next 256 = .ok (.goto 19, 3) := by decide +kernel
theorem d_Mo_next_259 : decode b_Mo_next 259 = .ok (.aload_n 0, 1) := by decide +kernel
theorem d_Mo_next_260 : decode b_Mo_next 260 = .ok (.iload_n 1, 1) := by decide +kernel
theorem d_Mo_next_261 : decode b_Mo_next 261 = .ok (.aload_n 0, 1) := by decide +kernel
theorem d_Mo_next_262 : decode b_Mo_next 262 = .ok (.aload_n 0, 1) := by decide +kernel
theorem d_Mo_next_263 : decode b_Mo_next 263 = .ok (.getfield 195, 3) := by decide +kernel
theorem d_Mo_next_266 : decode b_Mo_next 266 = .ok (.iconst 1, 1) := by decide +kernel
theorem d_Mo_next_267 : decode b_Mo_next 267 = .ok (.iadd, 1) := by decide +kernel
theorem d_Mo_next_268 : decode b_Mo_next 268 = .ok (.invokevirtual 198, 3) := by decide +kernel
theorem d_Mo_next_271 : decode b_Mo_next 271 = .ok (.invokevirtual 213, 3) := by decide +kernel
theorem d_Mo_next_274 : decode b_Mo_next 274 = .ok (.ireturn, 1) := by decide +kernel
theorem d_Mo_next_275 : decode b_Mo_next 275 = .ok (.iconst 1, 1) := by decide +kernel
theorem d_Mo_next_276 : decode b_Mo_next 276 = .ok (.ireturn, 1) := by decide +kernel
theorem d_Mo_readNumber_0 : decode b_Mo_readNumber 0 = .ok (.aload_n 0, 1) := by decide +kernel
theorem d_Mo_readNumber_1 : decode b_Mo_readNumber 1 = .ok (.iconst 1, 1) := by decide +kernel
theorem d_Mo_readNumber_2 : decode b_Mo_readNumber 2 = .ok (.putfield 201, 3) := by decide +kernel
theorem d_Mo_readNumber_5 : decode b_Mo_readNumber 5 = .ok (.aload_n 0, 1) := by decide +kernel
theorem d_Mo_readNumber_6 : decode b_Mo_readNumber 6 = .ok (.lconst 0, 1) := by decide +kernel
theorem d_Mo_readNumber_7 : decode b_Mo_readNumber 7 = .ok (.putfield 216, 3) := by decide +kernel
theorem d_Mo_readNumber_10 : decode b_Mo_readNumber 10 = .ok (.iconst 1, 1) := by decide +kernel
theorem d_Mo_readNumber_11 : decode b_Mo_readNumber 11 = .ok (.istore_n 1, 1) := by decide +kernel
theorem d_Mo_readNumber_12 : decode b_Mo_readNumber 12 = .ok (.aload_n 0, 1) := by decide +kernel
theorem d_Mo_readNumber_13 : decode b_Mo_readNumber 13 = .ok (.aload_n 0, 1) := by decide +kernel
theorem d_Mo_readNumber_14 : decode b_Mo_readNumber 14 = .ok (.getfield 192, 3) := by decide +kernel
theorem d_Mo_readNumber_17 : decode b_Mo_readNumber 17 = .ok (.invokevirtual 198, 3) := by decide +kernel
theorem d_Mo_readNumber_20 : decode b_Mo_readNumber 20 = .ok (.invokestatic 204, 3) := by decide +kernel
theorem d_Mo_readNumber_23 : decode b_Mo_readNumber 23 = .ok (.ifCond .eq 92, 3) := by decide +kernel
theorem d_Mo_readNumber_26 : decode b_Mo_readNumber 26 = .ok (.aload_n 0, 1) := by decide +kernel
theorem d_Mo_readNumber_27 : decode b_Mo_readNumber 27 = .ok (.aload_n 0, 1) := by decide +kernel
theorem d_Mo_readNumber_28 : decode b_Mo_readNumber 28 = .ok (.getfield 192, 3) := by decide +kernel
theorem d_Mo_readNumber_31 : decode b_Mo_readNumber 31 = .ok (.invokevirtual 198, 3) := by decide +kernel
theorem d_Mo_readNumber_34 : decode b_Mo_readNumber 34 = .ok (.bipush 48, 2) := by decide +kernel
theorem d_Mo_readNumber_36 : decode b_Mo_readNumber 36 = .ok (.isub, 1) := by decide +kernel
theorem d_Mo_readNumber_37 : decode b_Mo_readNumber 37 = .ok (.istore_n 2, 1) := by decide +kernel
theorem d_Mo_readNumber_38 : decode b_Mo_readNumber 38 = .ok (.iload_n 1, 1) := by decide +kernel
theorem d_Mo_readNumber_39 : decode b_Mo_readNumber 39 = .ok (.ifCond .eq 35, 3) := by decide +kernel
theorem d_Mo_readNumber_42 : decode b_Mo_readNumber 42 = .ok (.aload_n 0, 1) := by decide +kernel
theorem d_Mo_readNumber_43 : decode b_Mo_readNumber 43 = .ok (.getfield 216, 3) := by decide +kernel
theorem d_Mo_readNumber_46 : decode b_Mo_readNumber 46 = .ok (.ldc2_w 219, 3) := by decide +kernel
theorem d_Mo_readNumber_49 : decode b_Mo_readNumber 49 = .ok (.lcmp, 1) := by decide +kernel
theorem d_Mo_readNumber_50 : decode b_Mo_readNumber 50 = .ok (.ifCond .lt 20, 3) := by decide +kernel
theorem d_Mo_readNumber_53 : decode b_Mo_readNumber 53 = .ok (.aload_n 0, 1) := by decide +kernel
theorem d_Mo_readNumber_54 : decode b_Mo_readNumber 54 = .ok (.getfield 216, 3) := by decide +kernel
theorem d_Mo_readNumber_57 : decode b_Mo_readNumber 57 = .ok (.ldc2_w 219, 3) := by decide +kernel
theorem d_Mo_readNumber_60 : decode b_Mo_readNumber 60 = .ok (.lcmp, 1) := by decide +kernel
theorem d_Mo_readNumber_61 : decode b_Mo_readNumber 61 = .ok (.ifCond .ne 13, 3) := by decide +kernel
theorem d_Mo_readNumber_64 : decode b_Mo_readNumber 64 = .ok (.iload_n 2, 1) := by decide +kernel
theorem d_Mo_readNumber_65 : decode b_Mo_readNumber 65 = .ok (.bipush 8, 2) := by decide +kernel
theorem d_Mo_readNumber_67 : decode b_Mo_readNumber 67 = .ok (.if_icmp .ge 7, 3) := by decide +kernel
theorem d_Mo_readNumber_70 : decode b_Mo_readNumber 70 = .ok (.iconst 1, 1) := by decide +kernel
theorem d_Mo_readNumber_71 : decode b_Mo_readNumber 71 = .ok (.goto 4, 3) := by decide +kernel
theorem d_Mo_readNumber_74 : decode b_Mo_readNumber 74 = .ok (.iconst 0, 1) := by decide +kernel
theorem d_Mo_readNumber_75 : decode b_Mo_readNumber 75 = .ok (.istore_n 1, 1) := by decide +kernel
theorem d_Mo_readNumber_76 : decode b_Mo_readNumber 76 = .ok (.aload_n 0, 1) := by decide +kernel
theorem d_Mo_readNumber_77 : decode b_Mo_readNumber 77 = .ok (.iload_n 1, 1) := by decide +kernel
theorem d_Mo_readNumber_78 : decode b_Mo_readNumber 78 = .ok (.ifCond .eq 17, 3) := by decide +kernel
theorem d_Mo_readNumber_81 : decode b_Mo_readNumber 81 = .ok (.ldc2_w 221, 3) := by decide +kernel
theorem d_Mo_readNumber_84 : decode b_Mo_readNumber 84 = .ok (.aload_n 0, 1) := by decide +kernel
theorem d_Mo_readNumber_85 : decode b_Mo_readNumber 85 = .ok (.getfield 216, 3) := by decide +kernel
theorem d_Mo_readNumber_88 : decode b_Mo_readNumber 88 = .ok (.lmul, 1) := by decide +kernel
theorem d_Mo_readNumber_89 : decode b_Mo_readNumber 89 = .ok (.iload_n 2, 1) := by decide +kernel
theorem d_Mo_readNumber_90 : decode b_Mo_readNumber 90 = .ok (.i2l, 1) := by decide +kernel
theorem d_Mo_readNumber_91 : decode b_Mo_readNumber 91 = .ok (.ladd, 1) := by decide +kernel
theorem d_Mo_readNumber_92 : decode b_Mo_readNumber 92 = .ok (.goto 7, 3) := by decide +kernel
theorem d_Mo_readNumber_95 : decode b_Mo_readNumber 95 = .ok (.aload_n 0, 1) := by decide +kernel
theorem d_Mo_readNumber_96 : decode b_Mo_readNumber 96 = .ok (.getfield 216, 3) := by decide +kernel
theorem d_Mo_readNumber_99 : decode b_Mo_readNumber 99 = .ok (.putfield 216, 3) := by decide +kernel
theorem d_Mo_readNumber_102 : decode b_Mo_readNumber 102 = .ok (.aload_n 0, 1) := by decide +kernel
theorem d_Mo_readNumber_103 : decode b_Mo_readNumber 103 = .ok (.dup, 1) := by decide +kernel
theorem d_Mo_readNumber_104 : decode b_Mo_readNumber 104 = .ok (.getfield 192, 3) := by decide +kernel
theorem d_Mo_readNumber_107 : decode b_Mo_readNumber 107 = .ok (.iconst 1, 1) := by decide +kernel
theorem d_Mo_readNumber_108 : decode b_Mo_readNumber 108 = .ok (.iadd, 1) := by decide +kernel
theorem d_Mo_readNumber_109 : decode b_Mo_readNumber 109 = .ok (.putfield 192, 3) := by decide +kernel
theorem d_Mo_readNumber_112 : decode b_Mo_readNumber 112 = .ok (.goto (-100), 3) := by decide +kernel
theorem d_Mo_readNumber_115 : decode b_Mo_readNumber 115 = .ok (.iload_n 1, 1) := by decide +kernel
theorem d_Mo_readNumber_116 : decode b_Mo_readNumber 116 = .ok (.ifCond .ne 15, 3) := by decide +kernel
theorem d_Mo_readNumber_119 : decode b_Mo_readNumber 119 = .ok (.aload_n 0, 1) := by decide +kernel
theorem d_Mo_readNumber_120 : decode b_Mo_readNumber 120 = .ok (.iconst 1, 1) := by decide +kernel
theorem d_Mo_readNumber_121 : decode b_Mo_readNumber 121 = .ok (.aload_n 0, 1) := by decide +kernel
theorem d_Mo_readNumber_122 : decode b_Mo_readNumber 122 = .ok (.getfield 195, 3) := by decide +kernel
theorem d_Mo_readNumber_125 : decode b_Mo_readNumber 125 = .ok (.invokevirtual 125, 3) := by decide +kernel
theorem d_Mo_readNumber_128 : decode b_Mo_readNumber 128 = .ok (.ifCond .eq 7, 3) := by decide +kernel
theorem d_Mo_readNumber_131 : decode b_Mo_readNumber 131 = .ok (.iconst 1, 1) := by decide +kernel
theorem d_Mo_readNumber_132 : decode b_Mo_readNumber 132 = .ok (.goto 4, 3) := by decide +kernel
theorem d_Mo_readNumber_135 : decode b_Mo_readNumber 135 = .ok (.iconst 0, 1) := by decide +kernel
theorem d_Mo_readNumber_136 : decode b_Mo_readNumber 136 = .ok (.ireturn, 1) := by decide +kernel
theorem d_Mo_readSign_0 : decode b_Mo_readSign 0 = .ok (.iload_n 1, 1) := by decide +kernel
theorem d_Mo_readSign_1 : decode b_Mo_readSign 1 = .ok (.bipush 33, 2) := by decide +kernel
theorem d_Mo_readSign_3 : decode b_Mo_readSign 3 = .ok (.if_icmp .ne 15, 3) := by decide +kernel
theorem d_Mo_readSign_6 : decode b_Mo_readSign 6 = .ok (.iload_n 2, 1) := by decide +kernel
theorem d_Mo_readSign_7 : decode b_Mo_readSign 7 = .ok (.bipush 61, 2) := by decide +kernel
theorem d_Mo_readSign_9 : decode b_Mo_readSign 9 = .ok (.if_icmp .ne 9, 3) := by decide +kernel
theorem d_Mo_readSign_12 : decode b_Mo_readSign 12 = .ok (.sipush 256, 3) := by decide +kernel
theorem d_Mo_readSign_15 : decode b_Mo_readSign 15 = .ok (.goto 40, 3) := by decide +kernel
theorem d_Mo_readSign_18 : decode b_Mo_readSign 18 = .ok (.iload_n 1, 1) := by decide +kernel
theorem d_Mo_readSign_19 : decode b_Mo_readSign 19 = .ok (.bipush 94, 2) := by decide +kernel
theorem d_Mo_readSign_21 : decode b_Mo_readSign 21 = .ok (.if_icmp .ne 15, 3) := by decide +kernel
theorem d_Mo_readSign_24 : decode b_Mo_readSign 24 = .ok (.iload_n 2, 1) := by decide +kernel
theorem d_Mo_readSign_25 : decode b_Mo_readSign 25 = .ok (.bipush 61, 2) := by decide +kernel
theorem d_Mo_readSign_27 : decode b_Mo_readSign 27 = .ok (.if_icmp .ne 9, 3) := by decide +kernel
theorem d_Mo_readSign_30 : decode b_Mo_readSign 30 = .ok (.sipush 257, 3) := by decide +kernel
theorem d_Mo_readSign_33 : decode b_Mo_readSign 33 = .ok (.goto 22, 3) := by decide +kernel
theorem d_Mo_readSign_36 : decode b_Mo_readSign 36 = .ok (.iload_n 1, 1) := by decide +kernel
theorem d_Mo_readSign_37 : decode b_Mo_readSign 37 = .ok (.bipush 33, 2) := by decide +kernel
theorem d_Mo_readSign_39 : decode b_Mo_readSign 39 = .ok (.if_icmp .ne 15, 3) := by decide +kernel
theorem d_Mo_readSign_42 : decode b_Mo_readSign 42 = .ok (.iload_n 2, 1) := by decide +kernel
theorem d_Mo_readSign_43 : decode b_Mo_readSign 43 = .ok (.bipush 94, 2) := by decide +kernel
theorem d_Mo_readSign_45 : decode b_Mo_readSign 45 = .ok (.if_icmp .ne 9, 3) := by decide +kernel
theorem d_Mo_readSign_48 : decode b_Mo_readSign 48 = .ok (.sipush 258, 3) := by decide +kernel
theorem d_Mo_readSign_51 : decode b_Mo_readSign 51 = .ok (.goto 4, 3) := by decide +kernel
theorem d_Mo_readSign_54 : decode b_Mo_readSign 54 = .ok (.iconst 0, 1) := by decide +kernel
theorem d_Mo_readSign_55 : decode b_Mo_readSign 55 = .ok (.istore_n 3, 1) := by decide +kernel
theorem d_Mo_readSign_56 : decode b_Mo_readSign 56 = .ok (.iload_n 1, 1) := by decide +kernel
theorem d_Mo_readSign_57 : decode b_Mo_readSign 57 = .ok (.bipush 43, 2) := by decide +kernel
theorem d_Mo_readSign_59 : decode b_Mo_readSign 59 = .ok (.if_icmp .eq 63, 3) := by decide +kernel
theorem d_Mo_readSign_62 : decode b_Mo_readSign 62 = .ok (.iload_n 1, 1) := by decide +kernel
theorem d_Mo_readSign_63 : decode b_Mo_readSign 63 = .ok (.bipush 45, 2) := by decide +kernel
theorem d_Mo_readSign_65 : decode b_Mo_readSign 65 = .ok (.if_icmp .eq 57, 3) := by decide +kernel
theorem d_Mo_readSign_68 : decode b_Mo_readSign 68 = .ok (.iload_n 1, 1) := by decide +kernel
theorem d_Mo_readSign_69 : decode b_Mo_readSign 69 = .ok (.bipush 42, 2) := by decide +kernel
theorem d_Mo_readSign_71 : decode b_Mo_readSign 71 = .ok (.if_icmp .eq 51, 3) := by decide +kernel
theorem d_Mo_readSign_74 : decode b_Mo_readSign 74 = .ok (.iload_n 1, 1) := by decide +kernel
theorem d_Mo_readSign_75 : decode b_Mo_readSign 75 = .ok (.bipush 47, 2) := by decide +kernel
theorem d_Mo_readSign_77 : decode b_Mo_readSign 77 = .ok (.if_icmp .eq 45, 3) := by decide +kernel
theorem d_Mo_readSign_80 : decode b_Mo_readSign 80 = .ok (.iload_n 1, 1) := by decide +kernel
theorem d_Mo_readSign_81 : decode b_Mo_readSign 81 = .ok (.bipush 37, 2) := by decide +kernel
theorem d_Mo_readSign_83 : decode b_Mo_readSign 83 = .ok (.if_icmp .eq 39, 3) := by decide +kernel
theorem d_Mo_readSign_86 : decode b_Mo_readSign 86 = .ok (.iload_n 1, 1) := by decide +kernel
theorem d_Mo_readSign_87 : decode b_Mo_readSign 87 = .ok (.bipush 40, 2) := by decide +kernel
theorem d_Mo_readSign_89 : decode b_Mo_readSign 89 = .ok (.if_icmp .eq 33, 3) := by decide +kernel
theorem d_Mo_readSign_92 : decode b_Mo_readSign 92 = .ok (.iload_n 1, 1) := by decide +kernel
theorem d_Mo_readSign_93 : decode b_Mo_readSign 93 = .ok (.bipush 41, 2) := by decide +kernel
theorem d_Mo_readSign_95 : decode b_Mo_readSign 95 = .ok (.if_icmp .eq 27, 3) := by decide +kernel
theorem d_Mo_readSign_98 : decode b_Mo_readSign 98 = .ok (.iload_n 1, 1) := by decide +kernel
theorem d_Mo_readSign_99 : decode b_Mo_readSign 99 = .ok (.bipush 123, 2) := by decide +kernel
theorem d_Mo_readSign_101 : decode b_Mo_readSign 101 = .ok (.if_icmp .eq 21, 3) := by decide +kernel
theorem d_Mo_readSign_104 : decode b_Mo_readSign 104 = .ok (.iload_n 1, 1) := by decide +kernel
theorem d_Mo_readSign_105 : decode b_Mo_readSign 105 = .ok (.bipush 125, 2) := by decide +kernel
theorem d_Mo_readSign_107 : decode b_Mo_readSign 107 = .ok (.if_icmp .eq 15, 3) := by decide +kernel
theorem d_Mo_readSign_110 : decode b_Mo_readSign 110 = .ok (.iload_n 1, 1) := by decide +kernel
theorem d_Mo_readSign_111 : decode b_Mo_readSign 111 = .ok (.bipush 44, 2) := by decide +kernel
theorem d_Mo_readSign_113 : decode b_Mo_readSign 113 = .ok (.if_icmp .eq 9, 3) := by decide +kernel
theorem d_Mo_readSign_116 : decode b_Mo_readSign 116 = .ok (.iload_n 1, 1) := by decide +kernel
theorem d_Mo_readSign_117 : decode b_Mo_readSign 117 = .ok (.bipush 61, 2) := by decide +kernel
theorem d_Mo_readSign_119 : decode b_Mo_readSign 119 = .ok (.if_icmp .ne 7, 3) := by decide +kernel
theorem d_Mo_readSign_122 : decode b_Mo_readSign 122 = .ok (.iconst 1, 1) := by decide +kernel
theorem d_Mo_readSign_123 : decode b_Mo_readSign 123 = .ok (.goto 4, 3) := by decide +kernel
theorem d_Mo_readSign_126 : decode b_Mo_readSign 126 = .ok (.iconst 0, 1) := by decide +kernel
theorem d_Mo_readSign_127 : decode b_Mo_readSign 127 = .ok (.istore 4, 2) := by decide +kernel
theorem d_Mo_readSign_129 : decode b_Mo_readSign 129 = .ok (.iload_n 3, 1) := by decide +kernel
theorem d_Mo_readSign_130 : decode b_Mo_readSign 130 = .ok (.ifCond .ne 18, 3) := by decide +kernel
theorem d_Mo_readSign_133 : decode b_Mo_readSign 133 = .ok (.iload 4, 2) := by decide +kernel
theorem d_Mo_readSign_135 : decode b_Mo_readSign 135 = .ok (.ifCond .ne 13, 3) := by decide +kernel
theorem d_Mo_readSign_138 : decode b_Mo_readSign 138 = .ok (.aload_n 0, 1) := by decide +kernel
theorem d_Mo_readSign_139 : decode b_Mo_readSign 139 = .ok (.iconst 1, 1) := by decide +kernel
theorem d_Mo_readSign_140 : decode b_Mo_readSign 140 = .ok (.aload_n 0, 1) := by decide +kernel
theorem d_Mo_readSign_141 : decode b_Mo_readSign 141 = .ok (.getfield 195, 3) := by decide +kernel
theorem d_Mo_readSign_144 : decode b_Mo_readSign 144 = .ok (.invokevirtual 125, 3) := by decide +kernel
theorem d_Mo_readSign_147 : decode b_Mo_readSign 147 = .ok (.ireturn, 1) := by decide +kernel
theorem d_Mo_readSign_148 : decode b_Mo_readSign 148 = .ok (.aload_n 0, 1) := by decide +kernel
theorem d_Mo_readSign_149 : decode b_Mo_readSign 149 = .ok (.iload_n 3, 1) := by decide +kernel
theorem d_Mo_readSign_150 : decode b_Mo_readSign 150 = .ok (.ifCond .le 7, 3) := by decide +kernel
theorem d_Mo_readSign_153 : decode b_Mo_readSign 153 = .ok (.iload_n 3, 1) := by decide +kernel
theorem d_Mo_readSign_154 : decode b_Mo_readSign 154 = .ok (.goto 4, 3) := by decide +kernel
theorem d_Mo_readSign_157 : decode b_Mo_readSign 157 = .ok (.iload_n 1, 1) := by decide +kernel
theorem d_Mo_readSign_158 : decode b_Mo_readSign 158 = .ok (.putfield 201, 3) := by decide +kernel
theorem d_Mo_readSign_161 : decode b_Mo_readSign 161 = .ok (.aload_n 0, 1) := by decide +kernel
theorem d_Mo_readSign_162 : decode b_Mo_readSign 162 = .ok (.aload_n 0, 1) := by decide +kernel
theorem d_Mo_readSign_163 : decode b_Mo_readSign 163 = .ok (.getfield 195, 3) := by decide +kernel
theorem d_Mo_readSign_166 : decode b_Mo_readSign 166 = .ok (.iload_n 3, 1) := by decide +kernel
theorem d_Mo_readSign_167 : decode b_Mo_readSign 167 = .ok (.ifCond .le 7, 3) := by decide +kernel
theorem d_Mo_readSign_170 : decode b_Mo_readSign 170 = .ok (.iconst 2, 1) := by decide +kernel
theorem d_Mo_readSign_171 : decode b_Mo_readSign 171 = .ok (.goto 4, 3) := by decide +kernel
theorem d_Mo_readSign_174 : decode b_Mo_readSign 174 = .ok (.iconst 1, 1) := by decide +kernel
theorem d_Mo_readSign_175 : decode b_Mo_readSign 175 = .ok (.iadd, 1) := by decide +kernel
theorem d_Mo_readSign_176 : decode b_Mo_readSign 176 = .ok (.putfield 192, 3) := by decide +kernel
theorem d_Mo_readSign_179 : decode b_Mo_readSign 179 = .ok (.iconst 1, 1) := by decide +kernel
theorem d_Mo_readSign_180 : decode b_Mo_readSign 180 = .ok (.ireturn, 1) := by decide +kernel
theorem d_Mo_need_0 : decode b_Mo_need 0 = .ok (.aload_n 0, 1) := by decide +kernel
theorem d_Mo_need_1 : decode b_Mo_need 1 = .ok (.getfield 201, 3) := by decide +kernel
theorem d_Mo_need_4 : decode b_Mo_need 4 = .ok (.iload_n 1, 1) := by decide +kernel
theorem d_Mo_need_5 : decode b_Mo_need 5 = .ok (.if_icmp .ne 10, 3) := by decide +kernel
theorem d_Mo_need_8 : decode b_Mo_need 8 = .ok (.aload_n 0, 1) := by decide +kernel
theorem d_Mo_need_9 : decode b_Mo_need 9 = .ok (.invokevirtual 223, 3) := by decide +kernel
theorem d_Mo_need_12 : decode b_Mo_need 12 = .ok (.goto 12, 3) := by decide +kernel
theorem d_Mo_need_15 : decode b_Mo_need 15 = .ok (.aload_n 0, 1) := by decide +kernel
theorem d_Mo_need_16 : decode b_Mo_need 16 = .ok (.iconst 2, 1) := by decide +kernel
theorem d_Mo_need_17 : decode b_Mo_need 17 = .ok (.aload_n 0, 1) := by decide +kernel
theorem d_Mo_need_18 : decode b_Mo_need 18 = .ok (.getfield 195, 3) := by decide +kernel
theorem d_Mo_need_21 : decode b_Mo_need 21 = .ok (.invokevirtual 125, 3) := by decide +kernel
theorem d_Mo_need_24 : decode b_Mo_need 24 = .ok (.ireturn, 1) := by decide +kernel
theorem d_Mo_isName_0 : decode b_Mo_isName 0 = .ok (.aload_n 0, 1) := by decide +kernel
theorem d_Mo_isName_1 : decode b_Mo_isName 1 = .ok (.getfield 201, 3) := by decide +kernel
theorem d_Mo_isName_4 : decode b_Mo_isName 4 = .ok (.iconst 2, 1) := by decide +kernel
theorem d_Mo_isName_5 : decode b_Mo_isName 5 = .ok (.if_icmp .ne 88, 3) := by decide +kernel
theorem d_Mo_isName_8 : decode b_Mo_isName 8 = .ok (.aload_n 0, 1) := by decide +kernel
theorem d_Mo_isName_9 : decode b_Mo_isName 9 = .ok (.getfield 192, 3) := by decide +kernel
theorem d_Mo_isName_12 : decode b_Mo_isName 12 = .ok (.aload_n 0, 1) := by decide +kernel
theorem d_Mo_isName_13 : decode b_Mo_isName 13 = .ok (.getfield 195, 3) := by decide +kernel
theorem d_Mo_isName_16 : decode b_Mo_isName 16 = .ok (.isub, 1) := by decide +kernel
theorem d_Mo_isName_17 : decode b_Mo_isName 17 = .ok (.iload 5, 2) := by decide +kernel
theorem d_Mo_isName_19 : decode b_Mo_isName 19 = .ok (.if_icmp .ne 74, 3) := by decide +kernel
theorem d_Mo_isName_22 : decode b_Mo_isName 22 = .ok (.aload_n 0, 1) := by decide +kernel
theorem d_Mo_isName_23 : decode b_Mo_isName 23 = .ok (.aload_n 0, 1) := by decide +kernel
theorem d_Mo_isName_24 : decode b_Mo_isName 24 = .ok (.getfield 195, 3) := by decide +kernel
theorem d_Mo_isName_27 : decode b_Mo_isName 27 = .ok (.invokevirtual 198, 3) := by decide +kernel
theorem d_Mo_isName_30 : decode b_Mo_isName 30 = .ok (.iload_n 1, 1) := by decide +kernel
theorem d_Mo_isName_31 : decode b_Mo_isName 31 = .ok (.if_icmp .ne 62, 3) := by decide +kernel
theorem d_Mo_isName_34 : decode b_Mo_isName 34 = .ok (.aload_n 0, 1) := by decide +kernel
theorem d_Mo_isName_35 : decode b_Mo_isName 35 = .ok (.aload_n 0, 1) := by decide +kernel
theorem d_Mo_isName_36 : decode b_Mo_isName 36 = .ok (.getfield 195, 3) := by decide +kernel
theorem d_Mo_isName_39 : decode b_Mo_isName 39 = .ok (.iconst 1, 1) := by decide +kernel
theorem d_Mo_isName_40 : decode b_Mo_isName 40 = .ok (.iadd, 1) := by decide +kernel
theorem d_Mo_isName_41 : decode b_Mo_isName 41 = .ok (.invokevirtual 198, 3) := by decide +kernel
theorem d_Mo_isName_44 : decode b_Mo_isName 44 = .ok (.iload_n 2, 1) := by decide +kernel
theorem d_Mo_isName_45 : decode b_Mo_isName 45 = .ok (.if_icmp .ne 48, 3) := by decide +kernel
theorem d_Mo_isName_48 : decode b_Mo_isName 48 = .ok (.iload 5, 2) := by decide +kernel
theorem d_Mo_isName_50 : decode b_Mo_isName 50 = .ok (.iconst 3, 1) := by decide +kernel
theorem d_Mo_isName_51 : decode b_Mo_isName 51 = .ok (.if_icmp .lt 17, 3) := by decide +kernel
theorem d_Mo_isName_54 : decode b_Mo_isName 54 = .ok (.aload_n 0, 1) := by decide +kernel
theorem d_Mo_isName_55 : decode b_Mo_isName 55 = .ok (.aload_n 0, 1) := by decide +kernel
theorem d_Mo_isName_56 : decode b_Mo_isName 56 = .ok (.getfield 195, 3) := by decide +kernel
theorem d_Mo_isName_59 : decode b_Mo_isName 59 = .ok (.iconst 2, 1) := by decide +kernel
theorem d_Mo_isName_60 : decode b_Mo_isName 60 = .ok (.iadd, 1) := by decide +kernel
theorem d_Mo_isName_61 : decode b_Mo_isName 61 = .ok (.invokevirtual 198, 3) := by decide +kernel
theorem d_Mo_isName_64 : decode b_Mo_isName 64 = .ok (.iload_n 3, 1) := by decide +kernel
theorem d_Mo_isName_65 : decode b_Mo_isName 65 = .ok (.if_icmp .ne 28, 3) := by decide +kernel
theorem d_Mo_isName_68 : decode b_Mo_isName 68 = .ok (.iload 5, 2) := by decide +kernel
theorem d_Mo_isName_70 : decode b_Mo_isName 70 = .ok (.iconst 4, 1) := by decide +kernel
theorem d_Mo_isName_71 : decode b_Mo_isName 71 = .ok (.if_icmp .lt 18, 3) := by decide +kernel
theorem d_Mo_isName_74 : decode b_Mo_isName 74 = .ok (.aload_n 0, 1) := by decide +kernel
theorem d_Mo_isName_75 : decode b_Mo_isName 75 = .ok (.aload_n 0, 1) := by decide +kernel
theorem d_Mo_isName_76 : decode b_Mo_isName 76 = .ok (.getfield 195, 3) := by decide +kernel
theorem d_Mo_isName_79 : decode b_Mo_isName 79 = .ok (.iconst 3, 1) := by decide +kernel
theorem d_Mo_isName_80 : decode b_Mo_isName 80 = .ok (.iadd, 1) := by decide +kernel
theorem d_Mo_isName_81 : decode b_Mo_isName 81 = .ok (.invokevirtual 198, 3) := by decide +kernel
theorem d_Mo_isName_84 : decode b_Mo_isName 84 = .ok (.iload 4, 2) := by decide +kernel
theorem d_Mo_isName_86 : decode b_Mo_isName 86 = .ok (.if_icmp .ne 7, 3) := by decide +kernel
theorem d_Mo_isName_89 : decode b_Mo_isName 89 = .ok (.iconst 1, 1) := by decide +kernel
theorem d_Mo_isName_90 : decode b_Mo_isName 90 = .ok (.goto 4, 3) := by decide +kernel
theorem d_Mo_isName_93 : decode b_Mo_isName 93 = .ok (.iconst 0, 1) := by decide +kernel
theorem d_Mo_isName_94 : decode b_Mo_isName 94 = .ok (.ireturn, 1) := by decide +kernel
theorem d_Mo_function_0 : decode b_Mo_function 0 = .ok (.aload_n 0, 1) := by decide +kernel
theorem d_Mo_function_1 : decode b_Mo_function 1 = .ok (.getfield 201, 3) := by decide +kernel
theorem d_Mo_function_4 : decode b_Mo_function 4 = .ok (.iconst 2, 1) := by decide +kernel
theorem d_Mo_function_5 : decode b_Mo_function 5 = .ok (.if_icmp .ne 15, 3) := by decide +kernel
theorem d_Mo_function_8 : decode b_Mo_function 8 = .ok (.aload_n 0, 1) := by decide +kernel
theorem d_Mo_function_9 : decode b_Mo_function 9 = .ok (.getfield 192, 3) := by decide +kernel
theorem d_Mo_function_12 : decode b_Mo_function 12 = .ok (.aload_n 0, 1) := by decide +kernel
theorem d_Mo_function_13 : decode b_Mo_function 13 = .ok (.getfield 195, 3) := by decide +kernel
theorem d_Mo_function_16 : decode b_Mo_function 16 = .ok (.isub, 1) := by decide +kernel
theorem d_Mo_function_17 : decode b_Mo_function 17 = .ok (.goto 4, 3) := by decide +kernel
theorem d_Mo_function_20 : decode b_Mo_function 20 = .ok (.iconst 0, 1) := by decide +kernel
theorem d_Mo_function_21 : decode b_Mo_function 21 = .ok (.istore_n 1, 1) := by decide +kernel
theorem d_Mo_function_22 : decode b_Mo_function 22 = .ok (.iload_n 1, 1) := by decide +kernel
theorem d_Mo_function_23 : decode b_Mo_function 23 = .ok (.iconst 3, 1) := by decide +kernel
theorem d_Mo_function_24 : decode b_Mo_function 24 = .ok (.if_icmp .ne 25, 3) := by decide +kernel
theorem d_Mo_function_27 : decode b_Mo_function 27 = .ok (.aload_n 0, 1) := by decide +kernel
theorem d_Mo_function_28 : decode b_Mo_function 28 = .ok (.bipush 115, 2) := by decide +kernel
theorem d_Mo_function_30 : decode b_Mo_function 30 = .ok (.bipush 117, 2) := by decide +kernel
theorem d_Mo_function_32 : decode b_Mo_function 32 = .ok (.bipush 109, 2) := by decide +kernel
theorem d_Mo_function_34 : decode b_Mo_function 34 = .ok (.bipush 32, 2) := by decide +kernel
theorem d_Mo_function_36 : decode b_Mo_function 36 = .ok (.iconst 3, 1) := by decide +kernel
theorem d_Mo_function_37 : decode b_Mo_function 37 = .ok (.invokevirtual 226, 3) := by decide +kernel
theorem d_Mo_function_40 : decode b_Mo_function 40 = .ok (.ifCond .eq 7, 3) := by decide +kernel
theorem d_Mo_function_43 : decode b_Mo_function 43 = .ok (.iconst 0, 1) := by decide +kernel
theorem d_Mo_function_44 : decode b_Mo_function 44 = .ok (.goto 4, 3) := by decide +kernel
theorem d_Mo_function_47 : decode b_Mo_function 47 = .ok (.iconst (-1), 1) := by decide +kernel
theorem d_Mo_function_48 : decode b_Mo_function 48 = .ok (.ireturn, 1) := by decide +kernel
theorem d_Mo_function_49 : decode b_Mo_function 49 = .ok (.iload_n 1, 1) := by decide +kernel
theorem d_Mo_function_50 : decode b_Mo_function 50 = .ok (.iconst 4, 1) := by decide +kernel
theorem d_Mo_function_51 : decode b_Mo_function 51 = .ok (.if_icmp .ne 25, 3) := by decide +kernel
theorem d_Mo_function_54 : decode b_Mo_function 54 = .ok (.aload_n 0, 1) := by decide +kernel
theorem d_Mo_function_55 : decode b_Mo_function 55 = .ok (.bipush 109, 2) := by decide +kernel
theorem d_Mo_function_57 : decode b_Mo_function 57 = .ok (.bipush 111, 2) := by decide +kernel
theorem d_Mo_function_59 : decode b_Mo_function 59 = .ok (.bipush 115, 2) := by decide +kernel
theorem d_Mo_function_61 : decode b_Mo_function 61 = .ok (.bipush 116, 2) := by decide +kernel
theorem d_Mo_function_63 : decode b_Mo_function 63 = .ok (.iconst 4, 1) := by decide +kernel
theorem d_Mo_function_64 : decode b_Mo_function 64 = .ok (.invokevirtual 226, 3) := by decide +kernel
theorem d_Mo_function_67 : decode b_Mo_function 67 = .ok (.ifCond .eq 7, 3) := by decide +kernel
theorem d_Mo_function_70 : decode b_Mo_function 70 = .ok (.iconst 3, 1) := by decide +kernel
theorem d_Mo_function_71 : decode b_Mo_function 71 = .ok (.goto 4, 3) := by decide +kernel
theorem d_Mo_function_74 : decode b_Mo_function 74 = .ok (.iconst (-1), 1) := by decide +kernel
theorem d_Mo_function_75 : decode b_Mo_function 75 = .ok (.ireturn, 1) := by decide +kernel
theorem d_Mo_function_76 : decode b_Mo_function 76 = .ok (.aload_n 0, 1) := by decide +kernel
theorem d_Mo_function_77 : decode b_Mo_function 77 = .ok (.aload_n 0, 1) := by decide +kernel
theorem d_Mo_function_78 : decode b_Mo_function 78 = .ok (.getfield 192, 3) := by decide +kernel
theorem d_Mo_function_81 : decode b_Mo_function 81 = .ok (.iconst 1, 1) := by decide +kernel
theorem d_Mo_function_82 : decode b_Mo_function 82 = .ok (.isub, 1) := by decide +kernel
theorem d_Mo_function_83 : decode b_Mo_function 83 = .ok (.invokevirtual 198, 3) := by decide +kernel
theorem d_Mo_function_86 : decode b_Mo_function 86 = .ok (.istore_n 2, 1) := by decide +kernel
theorem d_Mo_function_87 : decode b_Mo_function 87 = .ok (.aload_n 0, 1) := by decide +kernel
theorem d_Mo_function_88 : decode b_Mo_function 88 = .ok (.aload_n 0, 1) := by decide +kernel
theorem d_Mo_function_89 : decode b_Mo_function 89 = .ok (.getfield 192, 3) := by decide +kernel
theorem d_Mo_function_92 : decode b_Mo_function 92 = .ok (.iconst 2, 1) := by decide +kernel
theorem d_Mo_function_93 : decode b_Mo_function 93 = .ok (.isub, 1) := by decide +kernel
theorem d_Mo_function_94 : decode b_Mo_function 94 = .ok (.invokevirtual 198, 3) := by decide +kernel
theorem d_Mo_function_97 : decode b_Mo_function 97 = .ok (.istore_n 3, 1) := by decide +kernel
theorem d_Mo_function_98 : decode b_Mo_function 98 = .ok (.iload_n 2, 1) := by decide +kernel
theorem d_Mo_function_99 : decode b_Mo_function 99 = .ok (.bipush 116, 2) := by decide +kernel
theorem d_Mo_function_101 : decode b_Mo_function 101 = .ok (.if_icmp .ne 7, 3) := by decide +kernel
theorem d_Mo_function_104 : decode b_Mo_function 104 = .ok (.iconst 1, 1) := by decide +kernel
theorem d_Mo_function_105 : decode b_Mo_function 105 = .ok (.goto 4, 3) := by decide +kernel
theorem d_Mo_function_108 : decode b_Mo_function 108 = .ok (.iconst 0, 1) := by decide +kernel
theorem d_Mo_function_109 : decode b_Mo_function 109 = .ok (.istore 4, 2) := by decide +kernel
theorem d_Mo_function_111 : decode b_Mo_function 111 = .ok (.iload_n 1, 1) := by decide +kernel
theorem d_Mo_function_112 : decode b_Mo_function 112 = .ok (.iconst 5, 1) := by decide +kernel
theorem d_Mo_function_113 : decode b_Mo_function 113 = .ok (.if_icmp .ne 89, 3) := by decide +kernel
theorem d_Mo_function_116 : decode b_Mo_function 116 = .ok (.aload_n 0, 1) := by decide +kernel
theorem d_Mo_function_117 : decode b_Mo_function 117 = .ok (.bipush 99, 2) := by decide +kernel
theorem d_Mo_function_119 : decode b_Mo_function 119 = .ok (.bipush 111, 2) := by decide +kernel
theorem d_Mo_function_121 : decode b_Mo_function 121 = .ok (.bipush 117, 2) := by decide +kernel
theorem d_Mo_function_123 : decode b_Mo_function 123 = .ok (.invokevirtual 230, 3) := by decide +kernel
theorem d_Mo_function_126 : decode b_Mo_function 126 = .ok (.ifCond .eq 18, 3) := by decide +kernel
theorem d_Mo_function_129 : decode b_Mo_function 129 = .ok (.iload_n 3, 1) := by decide +kernel
theorem d_Mo_function_130 : decode b_Mo_function 130 = .ok (.bipush 110, 2) := by decide +kernel
theorem d_Mo_function_132 : decode b_Mo_function 132 = .ok (.if_icmp .ne 12, 3) := by decide +kernel
theorem d_Mo_function_135 : decode b_Mo_function 135 = .ok (.iload 4, 2) := by decide +kernel
theorem d_Mo_function_137 : decode b_Mo_function 137 = .ok (.ifCond .eq 7, 3) := by decide +kernel
theorem d_Mo_function_140 : decode b_Mo_function 140 = .ok (.iconst 1, 1) := by decide +kernel
theorem d_Mo_function_141 : decode b_Mo_function 141 = .ok (.goto 60, 3) := by decide +kernel
theorem d_Mo_function_144 : decode b_Mo_function 144 = .ok (.aload_n 0, 1) := by decide +kernel
theorem d_Mo_function_145 : decode b_Mo_function 145 = .ok (.bipush 108, 2) := by decide +kernel
theorem d_Mo_function_147 : decode b_Mo_function 147 = .ok (.bipush 101, 2) := by decide +kernel
theorem d_Mo_function_149 : decode b_Mo_function 149 = .ok (.bipush 97, 2) := by decide +kernel
theorem d_Mo_function_151 : decode b_Mo_function 151 = .ok (.invokevirtual 230, 3) := by decide +kernel
theorem d_Mo_function_154 : decode b_Mo_function 154 = .ok (.ifCond .eq 18, 3) := by decide +kernel
theorem d_Mo_function_157 : decode b_Mo_function 157 = .ok (.iload_n 3, 1) := by decide +kernel
theorem d_Mo_function_158 : decode b_Mo_function 158 = .ok (.bipush 115, 2) := by decide +kernel
theorem d_Mo_function_160 : decode b_Mo_function 160 = .ok (.if_icmp .ne 12, 3) := by decide +kernel
theorem d_Mo_function_163 : decode b_Mo_function 163 = .ok (.iload 4, 2) := by decide +kernel
theorem d_Mo_function_165 : decode b_Mo_function 165 = .ok (.ifCond .eq 7, 3) := by decide +kernel
theorem d_Mo_function_168 : decode b_Mo_function 168 = .ok (.iconst 2, 1) := by decide +kernel
theorem d_Mo_function_169 : decode b_Mo_function 169 = .ok (.goto 32, 3) := by decide +kernel
theorem d_Mo_function_172 : decode b_Mo_function 172 = .ok (.aload_n 0, 1) := by decide +kernel
theorem d_Mo_function_173 : decode b_Mo_function 173 = .ok (.bipush 102, 2) := by decide +kernel
theorem d_Mo_function_175 : decode b_Mo_function 175 = .ok (.bipush 105, 2) := by decide +kernel
theorem d_Mo_function_177 : decode b_Mo_function 177 = .ok (.bipush 114, 2) := by decide +kernel
theorem d_Mo_function_179 : decode b_Mo_function 179 = .ok (.invokevirtual 230, 3) := by decide +kernel
theorem d_Mo_function_182 : decode b_Mo_function 182 = .ok (.ifCond .eq 18, 3) := by decide +kernel
theorem d_Mo_function_185 : decode b_Mo_function 185 = .ok (.iload_n 3, 1) := by decide +kernel
theorem d_Mo_function_186 : decode b_Mo_function 186 = .ok (.bipush 115, 2) := by decide +kernel
theorem d_Mo_function_188 : decode b_Mo_function 188 = .ok (.if_icmp .ne 12, 3) := by decide +kernel
theorem d_Mo_function_191 : decode b_Mo_function 191 = .ok (.iload 4, 2) := by decide +kernel
theorem d_Mo_function_193 : decode b_Mo_function 193 = .ok (.ifCond .eq 7, 3) := by decide +kernel
theorem d_Mo_function_196 : decode b_Mo_function 196 = .ok (.iconst 4, 1) := by decide +kernel
theorem d_Mo_function_197 : decode b_Mo_function 197 = .ok (.goto 4, 3) := by decide +kernel
theorem d_Mo_function_200 : decode b_Mo_function 200 = .ok (.iconst (-1), 1) := by decide +kernel
theorem d_Mo_function_201 : decode b_Mo_function 201 = .ok (.ireturn, 1) := by decide +kernel
theorem d_Mo_function_202 : decode b_Mo_function 202 = .ok (.iload_n 1, 1) := by decide +kernel
theorem d_Mo_function_203 : decode b_Mo_function 203 = .ok (.bipush 6, 2) := by decide +kernel
theorem d_Mo_function_205 : decode b_Mo_function 205 = .ok (.if_icmp .eq 5, 3) := by decide +kernel
theorem d_Mo_function_208 : decode b_Mo_function 208 = .ok (.iconst (-1), 1) := by decide +kernel
theorem d_Mo_function_209 : decode b_Mo_function 209 = .ok (.ireturn, 1) := by decide +kernel
theorem d_Mo_function_210 : decode b_Mo_function 210 = .ok (.aload_n 0, 1) := by decide +kernel
theorem d_Mo_function_211 : decode b_Mo_function 211 = .ok (.bipush 108, 2) := by decide +kernel
theorem d_Mo_function_213 : decode b_Mo_function 213 = .ok (.bipush 97, 2) := by decide +kernel
theorem d_Mo_function_215 : decode b_Mo_function 215 = .ok (.bipush 116, 2) := by decide +kernel
theorem d_Mo_function_217 : decode b_Mo_function 217 = .ok (.invokevirtual 230, 3) := by decide +kernel
theorem d_Mo_function_220 : decode b_Mo_function 220 = .ok (.ifCond .eq 33, 3) := by decide +kernel
theorem d_Mo_function_223 : decode b_Mo_function 223 = .ok (.aload_n 0, 1) := by decide +kernel
theorem d_Mo_function_224 : decode b_Mo_function 224 = .ok (.aload_n 0, 1) := by decide +kernel
theorem d_Mo_function_225 : decode b_Mo_function 225 = .ok (.getfield 195, 3) := by decide +kernel
theorem d_Mo_function_228 : decode b_Mo_function 228 = .ok (.iconst 3, 1) := by decide +kernel
theorem d_Mo_function_229 : decode b_Mo_function 229 = .ok (.iadd, 1) := by decide +kernel
theorem d_Mo_function_230 : decode b_Mo_function 230 = .ok (.invokevirtual 198, 3) := by decide +kernel
theorem d_Mo_function_233 : decode b_Mo_function 233 = .ok (.bipush 101, 2) := by decide +kernel
theorem d_Mo_function_235 : decode b_Mo_function 235 = .ok (.if_icmp .ne 18, 3) := by decide +kernel
theorem d_Mo_function_238 : decode b_Mo_function 238 = .ok (.iload_n 3, 1) := by decide +kernel
theorem d_Mo_function_239 : decode b_Mo_function 239 = .ok (.bipush 115, 2) := by decide +kernel
theorem d_Mo_function_241 : decode b_Mo_function 241 = .ok (.if_icmp .ne 12, 3) := by decide +kernel
theorem d_Mo_function_244 : decode b_Mo_function 244 = .ok (.iload 4, 2) := by decide +kernel
theorem d_Mo_function_246 : decode b_Mo_function 246 = .ok (.ifCond .eq 7, 3) := by decide +kernel
theorem d_Mo_function_249 : decode b_Mo_function 249 = .ok (.iconst 5, 1) := by decide +kernel
theorem d_Mo_function_250 : decode b_Mo_function 250 = .ok (.goto 49, 3) := by decide +kernel
theorem d_Mo_function_253 : decode b_Mo_function 253 = .ok (.aload_n 0, 1) := by decide +kernel
theorem d_Mo_function_254 : decode b_Mo_function 254 = .ok (.bipush 103, 2) := by decide +kernel
theorem d_Mo_function_256 : decode b_Mo_function 256 = .ok (.bipush 114, 2) := by decide +kernel
theorem d_Mo_function_258 : decode b_Mo_function 258 = .ok (.bipush 111, 2) := by decide +kernel
theorem d_Mo_function_260 : decode b_Mo_function 260 = .ok (.invokevirtual 230, 3) := by decide +kernel
theorem d_Mo_function_263 : decode b_Mo_function 263 = .ok (.ifCond .eq 35, 3) := by decide +kernel
theorem d_Mo_function_266 : decode b_Mo_function 266 = .ok (.aload_n 0, 1) := by decide +kernel
theorem d_Mo_function_267 : decode b_Mo_function 267 = .ok (.aload_n 0, 1) := by decide +kernel
theorem d_Mo_function_268 : decode b_Mo_function 268 = .ok (.getfield 195, 3) := by decide +kernel
theorem d_Mo_function_271 : decode b_Mo_function 271 = .ok (.iconst 3, 1) := by decide +kernel
theorem d_Mo_function_272 : decode b_Mo_function 272 = .ok (.iadd, 1) := by decide +kernel
theorem d_Mo_function_273 : decode b_Mo_function 273 = .ok (.invokevirtual 198, 3) := by decide +kernel
theorem d_Mo_function_276 : decode b_Mo_function 276 = .ok (.bipush 119, 2) := by decide +kernel
theorem d_Mo_function_278 : decode b_Mo_function 278 = .ok (.if_icmp .ne 20, 3) := by decide +kernel
theorem d_Mo_function_281 : decode b_Mo_function 281 = .ok (.iload_n 3, 1) := by decide +kernel
theorem d_Mo_function_282 : decode b_Mo_function 282 = .ok (.bipush 116, 2) := by decide +kernel
theorem d_Mo_function_284 : decode b_Mo_function 284 = .ok (.if_icmp .ne 14, 3) := by decide +kernel
theorem d_Mo_function_287 : decode b_Mo_function 287 = .ok (.iload_n 2, 1) := by decide +kernel
theorem d_Mo_function_288 : decode b_Mo_function 288 = .ok (.bipush 104, 2) := by decide +kernel
theorem d_Mo_function_290 : decode b_Mo_function 290 = .ok (.if_icmp .ne 8, 3) := by decide +kernel
theorem d_Mo_function_293 : decode b_Mo_function 293 = .ok (.bipush 6, 2) := by decide +kernel
theorem d_Mo_function_295 : decode b_Mo_function 295 = .ok (.goto 4, 3) := by decide +kernel
theorem d_Mo_function_298 : decode b_Mo_function 298 = .ok (.iconst (-1), 1) := by decide +kernel
theorem d_Mo_function_299 : decode b_Mo_function 299 = .ok (.ireturn, 1) := by decide +kernel
theorem d_Mo_isStart_0 : decode b_Mo_isStart 0 = .ok (.aload_n 0, 1) := by decide +kernel
theorem d_Mo_isStart_1 : decode b_Mo_isStart 1 = .ok (.aload_n 0, 1) := by decide +kernel
theorem d_Mo_isStart_2 : decode b_Mo_isStart 2 = .ok (.getfield 195, 3) := by decide +kernel
theorem d_Mo_isStart_5 : decode b_Mo_isStart 5 = .ok (.invokevirtual 198, 3) := by decide +kernel
theorem d_Mo_isStart_8 : decode b_Mo_isStart 8 = .ok (.iload_n 1, 1) := by decide +kernel
theorem d_Mo_isStart_9 : decode b_Mo_isStart 9 = .ok (.if_icmp .ne 35, 3) := by decide +kernel
theorem d_Mo_isStart_12 : decode b_Mo_isStart 12 = .ok (.aload_n 0, 1) := by decide +kernel
theorem d_Mo_isStart_13 : decode b_Mo_isStart 13 = .ok (.aload_n 0, 1) := by decide +kernel
theorem d_Mo_isStart_14 : decode b_Mo_isStart 14 = .ok (.getfield 195, 3) := by decide +kernel
theorem d_Mo_isStart_17 : decode b_Mo_isStart 17 = .ok (.iconst 1, 1) := by decide +kernel
theorem d_Mo_isStart_18 : decode b_Mo_isStart 18 = .ok (.iadd, 1) := by decide +kernel
theorem d_Mo_isStart_19 : decode b_Mo_isStart 19 = .ok (.invokevirtual 198, 3) := by decide +kernel
theorem d_Mo_isStart_22 : decode b_Mo_isStart 22 = .ok (.iload_n 2, 1) := by decide +kernel
theorem d_Mo_isStart_23 : decode b_Mo_isStart 23 = .ok (.if_icmp .ne 21, 3) := by decide +kernel
theorem d_Mo_isStart_26 : decode b_Mo_isStart 26 = .ok (.aload_n 0, 1) := by decide +kernel
theorem d_Mo_isStart_27 : decode b_Mo_isStart 27 = .ok (.aload_n 0, 1) := by decide +kernel
theorem d_Mo_isStart_28 : decode b_Mo_isStart 28 = .ok (.getfield 195, 3) := by decide +kernel
theorem d_Mo_isStart_31 : decode b_Mo_isStart 31 = .ok (.iconst 2, 1) := by decide +kernel
theorem d_Mo_isStart_32 : decode b_Mo_isStart 32 = .ok (.iadd, 1) := by decide +kernel
theorem d_Mo_isStart_33 : decode b_Mo_isStart 33 = .ok (.invokevirtual 198, 3) := by decide +kernel
theorem d_Mo_isStart_36 : decode b_Mo_isStart 36 = .ok (.iload_n 3, 1) := by decide +kernel
theorem d_Mo_isStart_37 : decode b_Mo_isStart 37 = .ok (.if_icmp .ne 7, 3) := by decide +kernel
theorem d_Mo_isStart_40 : decode b_Mo_isStart 40 = .ok (.iconst 1, 1) := by decide +kernel
theorem d_Mo_isStart_41 : decode b_Mo_isStart 41 = .ok (.goto 4, 3) := by decide +kernel
theorem d_Mo_isStart_44 : decode b_Mo_isStart 44 = .ok (.iconst 0, 1) := by decide +kernel
theorem d_Mo_isStart_45 : decode b_Mo_isStart 45 = .ok (.ireturn, 1) := by decide +kernel
theorem d_Mo_cellAt_0 : decode b_Mo_cellAt 0 = .ok (.aload_n 0, 1) := by decide +kernel
theorem d_Mo_cellAt_1 : decode b_Mo_cellAt 1 = .ok (.getfield 64, 3) := by decide +kernel
theorem d_Mo_cellAt_4 : decode b_Mo_cellAt 4 = .ok (.iload_n 1, 1) := by decide +kernel
theorem d_Mo_cellAt_5 : decode b_Mo_cellAt 5 = .ok (.iaload, 1) := by decide +kernel
theorem d_Mo_cellAt_6 : decode b_Mo_cellAt 6 = .ok (.iload_n 2, 1) := by decide +kernel
theorem d_Mo_cellAt_7 : decode b_Mo_cellAt 7 = .ok (.aload_n 0, 1) := by decide +kernel
theorem d_Mo_cellAt_8 : decode b_Mo_cellAt 8 = .ok (.getfield 234, 3) := by decide +kernel
theorem d_Mo_cellAt_11 : decode b_Mo_cellAt 11 = .ok (.imul, 1) := by decide +kernel
theorem d_Mo_cellAt_12 : decode b_Mo_cellAt 12 = .ok (.iadd, 1) := by decide +kernel
theorem d_Mo_cellAt_13 : decode b_Mo_cellAt 13 = .ok (.iload_n 3, 1) := by decide +kernel
theorem d_Mo_cellAt_14 : decode b_Mo_cellAt 14 = .ok (.iadd, 1) := by decide +kernel
theorem d_Mo_cellAt_15 : decode b_Mo_cellAt 15 = .ok (.ireturn, 1) := by decide +kernel
theorem d_Mo_valueOf_0 : decode b_Mo_valueOf 0 = .ok (.aload_n 0, 1) := by decide +kernel
theorem d_Mo_valueOf_1 : decode b_Mo_valueOf 1 = .ok (.iconst 0, 1) := by decide +kernel
theorem d_Mo_valueOf_2 : decode b_Mo_valueOf 2 = .ok (.putfield 237, 3) := by decide +kernel
theorem d_Mo_valueOf_5 : decode b_Mo_valueOf 5 = .ok (.sipush 304, 3) := by decide +kernel
theorem d_Mo_valueOf_8 : decode b_Mo_valueOf 8 = .ok (.iload_n 1, 1) := by decide +kernel
theorem d_Mo_valueOf_9 : decode b_Mo_valueOf 9 = .ok (.imul, 1) := by decide +kernel
theorem d_Mo_valueOf_10 : decode b_Mo_valueOf 10 = .ok (.aload_n 0, 1) := by decide +kernel
theorem d_Mo_valueOf_11 : decode b_Mo_valueOf 11 = .ok (.getfield 18, 3) := by decide +kernel
theorem d_Mo_valueOf_14 : decode b_Mo_valueOf 14 = .ok (.iload_n 1, 1) := by decide +kernel
theorem d_Mo_valueOf_15 : decode b_Mo_valueOf 15 = .ok (.iaload, 1) := by decide +kernel
theorem d_Mo_valueOf_16 : decode b_Mo_valueOf 16 = .ok (.iadd, 1) := by decide +kernel
theorem d_Mo_valueOf_17 : decode b_Mo_valueOf 17 = .ok (.istore 4, 2) := by decide +kernel
theorem d_Mo_valueOf_19 : decode b_Mo_valueOf 19 = .ok (.sipush 304, 3) := by decide +kernel
theorem d_Mo_valueOf_22 : decode b_Mo_valueOf 22 = .ok (.iload_n 1, 1) := by decide +kernel
theorem d_Mo_valueOf_23 : decode b_Mo_valueOf 23 = .ok (.imul, 1) := by decide +kernel
theorem d_Mo_valueOf_24 : decode b_Mo_valueOf 24 = .ok (.istore 5, 2) := by decide +kernel
theorem d_Mo_valueOf_26 : decode b_Mo_valueOf 26 = .ok (.iload 5, 2) := by decide +kernel
theorem d_Mo_valueOf_28 : decode b_Mo_valueOf 28 = .ok (.iload 4, 2) := by decide +kernel
theorem d_Mo_valueOf_30 : decode b_Mo_valueOf 30 = .ok (.if_icmp .ge 149, 3) := by decide +kernel
theorem d_Mo_valueOf_33 : decode b_Mo_valueOf 33 = .ok (.iload 5, 2) := by decide +kernel
theorem d_Mo_valueOf_35 : decode b_Mo_valueOf 35 = .ok (.istore 6, 2) := by decide +kernel
theorem d_Mo_valueOf_37 : decode b_Mo_valueOf 37 = .ok (.aload_n 0, 1) := by decide +kernel
theorem d_Mo_valueOf_38 : decode b_Mo_valueOf 38 = .ok (.getfield 15, 3) := by decide +kernel
theorem d_Mo_valueOf_41 : decode b_Mo_valueOf 41 = .ok (.iload 6, 2) := by decide +kernel
theorem d_Mo_valueOf_43 : decode b_Mo_valueOf 43 = .ok (.baload, 1) := by decide +kernel
theorem d_Mo_valueOf_44 : decode b_Mo_valueOf 44 = .ok (.bipush 61, 2) := by decide +kernel
theorem d_Mo_valueOf_46 : decode b_Mo_valueOf 46 = .ok (.if_icmp .eq 9, 3) := by decide +kernel
theorem d_Mo_valueOf_49 : decode b_Mo_valueOf 49 = .ok (.iinc 6 1, 3) := by decide +kernel
theorem d_Mo_valueOf_52 : decode b_Mo_valueOf 52 = .ok (.goto (-15), 3) := by decide +kernel
theorem d_Mo_valueOf_55 : decode b_Mo_valueOf 55 = .ok (.iload 6, 2) := by decide +kernel
theorem d_Mo_valueOf_57 : decode b_Mo_valueOf 57 = .ok (.istore 7, 2) := by decide +kernel
theorem d_Mo_valueOf_59 : decode b_Mo_valueOf 59 = .ok (.iload 7, 2) := by decide +kernel
theorem d_Mo_valueOf_61 : decode b_Mo_valueOf 61 = .ok (.iload 4, 2) := by decide +kernel
theorem d_Mo_valueOf_63 : decode b_Mo_valueOf 63 = .ok (.if_icmp .ge 21, 3) := by decide +kernel
theorem d_Mo_valueOf_66 : decode b_Mo_valueOf 66 = .ok (.aload_n 0, 1) := by decide +kernel
theorem d_Mo_valueOf_67 : decode b_Mo_valueOf 67 = .ok (.getfield 15, 3) := by decide +kernel
theorem d_Mo_valueOf_70 : decode b_Mo_valueOf 70 = .ok (.iload 7, 2) := by decide +kernel
theorem d_Mo_valueOf_72 : decode b_Mo_valueOf 72 = .ok (.baload, 1) := by decide +kernel
theorem d_Mo_valueOf_73 : decode b_Mo_valueOf 73 = .ok (.bipush 44, 2) := by decide +kernel
theorem d_Mo_valueOf_75 : decode b_Mo_valueOf 75 = .ok (.if_icmp .eq 9, 3) := by decide +kernel
theorem d_Mo_valueOf_78 : decode b_Mo_valueOf 78 = .ok (.iinc 7 1, 3) := by decide +kernel
theorem d_Mo_valueOf_81 : decode b_Mo_valueOf 81 = .ok (.goto (-22), 3) := by decide +kernel
theorem d_Mo_valueOf_84 : decode b_Mo_valueOf 84 = .ok (.iload 6, 2) := by decide +kernel
theorem d_Mo_valueOf_86 : decode b_Mo_valueOf 86 = .ok (.iload 5, 2) := by decide +kernel
theorem d_Mo_valueOf_88 : decode b_Mo_valueOf 88 = .ok (.isub, 1) := by decide +kernel
theorem d_Mo_valueOf_89 : decode b_Mo_valueOf 89 = .ok (.iload_n 3, 1) := by decide +kernel
theorem d_Mo_valueOf_90 : decode b_Mo_valueOf 90 = .ok (.if_icmp .ne 7, 3) := by decide +kernel
theorem d_Mo_valueOf_93 : decode b_Mo_valueOf 93 = .ok (.iconst 1, 1) := by decide +kernel
theorem d_Mo_valueOf_94 : decode b_Mo_valueOf 94 = .ok (.goto 4, 3) := by decide +kernel
theorem d_Mo_valueOf_97 : decode b_Mo_valueOf 97 = .ok (.iconst 0, 1) := by decide +kernel
theorem d_Mo_valueOf_98 : decode b_Mo_valueOf 98 = .ok (.istore 8, 2) := by decide +kernel
theorem d_Mo_valueOf_100 : decode b_Mo_valueOf 100 = .ok (.iconst 0, 1) := by decide +kernel
theorem d_Mo_valueOf_101 : decode b_Mo_valueOf 101 = .ok (.istore 9, 2) := by decide +kernel
theorem d_Mo_valueOf_103 : decode b_Mo_valueOf 103 = .ok (.iload 9, 2) := by decide +kernel
theorem d_Mo_valueOf_105 : decode b_Mo_valueOf 105 = .ok (.iload_n 3, 1) := by decide +kernel
theorem d_Mo_valueOf_106 : decode b_Mo_valueOf 106 = .ok (.if_icmp .ge 43, 3) := by decide +kernel
theorem d_Mo_valueOf_109 : decode b_Mo_valueOf 109 = .ok (.iload 8, 2) := by decide +kernel
theorem d_Mo_valueOf_111 : decode b_Mo_valueOf 111 = .ok (.ifCond .eq 38, 3) := by decide +kernel
theorem d_Mo_valueOf_114 : decode b_Mo_valueOf 114 = .ok (.aload_n 0, 1) := by decide +kernel
theorem d_Mo_valueOf_115 : decode b_Mo_valueOf 115 = .ok (.getfield 15, 3) := by decide +kernel
theorem d_Mo_valueOf_118 : decode b_Mo_valueOf 118 = .ok (.iload 5, 2) := by decide +kernel
theorem d_Mo_valueOf_120 : decode b_Mo_valueOf 120 = .ok (.iload 9, 2) := by decide +kernel
theorem d_Mo_valueOf_122 : decode b_Mo_valueOf 122 = .ok (.iadd, 1) := by decide +kernel
theorem d_Mo_valueOf_123 : decode b_Mo_valueOf 123 = .ok (.baload, 1) := by decide +kernel
theorem d_Mo_valueOf_124 : decode b_Mo_valueOf 124 = .ok (.aload_n 0, 1) := by decide +kernel
theorem d_Mo_valueOf_125 : decode b_Mo_valueOf 125 = .ok (.getfield 8, 3) := by decide +kernel
theorem d_Mo_valueOf_128 : decode b_Mo_valueOf 128 = .ok (.iload_n 2, 1) := by decide +kernel
theorem d_Mo_valueOf_129 : decode b_Mo_valueOf 129 = .ok (.iload 9, 2) := by decide +kernel
theorem d_Mo_valueOf_131 : decode b_Mo_valueOf 131 = .ok (.iadd, 1) := by decide +kernel
theorem d_Mo_valueOf_132 : decode b_Mo_valueOf 132 = .ok (.baload, 1) := by decide +kernel
theorem d_Mo_valueOf_133 : decode b_Mo_valueOf 133 = .ok (.if_icmp .ne 7, 3) := by decide +kernel
theorem d_Mo_valueOf_136 : decode b_Mo_valueOf 136 = .ok (.iconst 1, 1) := by decide +kernel
theorem d_Mo_valueOf_137 : decode b_Mo_valueOf 137 = .ok (.goto 4, 3) := by decide +kernel
theorem d_Mo_valueOf_140 : decode b_Mo_valueOf 140 = .ok (.iconst 0, 1) := by decide +kernel
theorem d_Mo_valueOf_141 : decode b_Mo_valueOf 141 = .ok (.istore 8, 2) := by decide +kernel
theorem d_Mo_valueOf_143 : decode b_Mo_valueOf 143 = .ok (.iinc 9 1, 3) := by decide +kernel
theorem d_Mo_valueOf_146 : decode b_Mo_valueOf 146 = .ok (.goto (-43), 3) := by decide +kernel
theorem d_Mo_valueOf_149 : decode b_Mo_valueOf 149 = .ok (.iload 8, 2) := by decide +kernel
theorem d_Mo_valueOf_151 : decode b_Mo_valueOf 151 = .ok (.ifCond .eq 19, 3) := by decide +kernel
theorem d_Mo_valueOf_154 : decode b_Mo_valueOf 154 = .ok (.aload_n 0, 1) := by decide +kernel
theorem d_Mo_valueOf_155 : decode b_Mo_valueOf 155 = .ok (.iload 7, 2) := by decide +kernel
theorem d_Mo_valueOf_157 : decode b_Mo_valueOf 157 = .ok (.iload 6, 2) := by decide +kernel
theorem d_Mo_valueOf_159 : decode b_Mo_valueOf 159 = .ok (.isub, 1) := by decide +kernel
theorem d_Mo_valueOf_160 : decode b_Mo_valueOf 160 = .ok (.iconst 1, 1) := by decide +kernel
theorem d_Mo_valueOf_161 : decode b_Mo_valueOf 161 = .ok (.isub, 1) := by decide +kernel
theorem d_Mo_valueOf_162 : decode b_Mo_valueOf 162 = .ok (.putfield 237, 3) := by decide +kernel
theorem d_Mo_valueOf_165 : decode b_Mo_valueOf 165 = .ok (.iload 6, 2) := by decide +kernel
theorem d_Mo_valueOf_167 : decode b_Mo_valueOf 167 = .ok (.iconst 1, 1) := by decide +kernel
theorem d_Mo_valueOf_168 : decode b_Mo_valueOf 168 = .ok (.iadd, 1) := by decide +kernel
theorem d_Mo_valueOf_169 : decode b_Mo_valueOf 169 = .ok (.ireturn, 1) := by decide +kernel
theorem d_Mo_valueOf_170 : decode b_Mo_valueOf 170 = .ok (.iload 7, 2) := by decide +kernel
theorem d_Mo_valueOf_172 : decode b_Mo_valueOf 172 = .ok (.iconst 1, 1) := by decide +kernel
theorem d_Mo_valueOf_173 : decode b_Mo_valueOf 173 = .ok (.iadd, 1) := by decide +kernel
theorem d_Mo_valueOf_174 : decode b_Mo_valueOf 174 = .ok (.istore 5, 2) := by decide +kernel
theorem d_Mo_valueOf_176 : decode b_Mo_valueOf 176 = .ok (.goto (-150), 3) := by decide +kernel
theorem d_Mo_valueOf_179 : decode b_Mo_valueOf 179 = .ok (.iconst (-1), 1) := by decide +kernel
theorem d_Mo_valueOf_180 : decode b_Mo_valueOf 180 = .ok (.ireturn, 1) := by decide +kernel
theorem d_Mo_compareRows_0 : decode b_Mo_compareRows 0 = .ok (.iconst 0, 1) := by decide +kernel
theorem d_Mo_compareRows_1 : decode b_Mo_compareRows 1 = .ok (.istore 4, 2) := by decide +kernel
theorem d_Mo_compareRows_3 : decode b_Mo_compareRows 3 = .ok (.iload 4, 2) := by decide +kernel
theorem d_Mo_compareRows_5 : decode b_Mo_compareRows 5 = .ok (.aload_n 0, 1) := by decide +kernel
theorem d_Mo_compareRows_6 : decode b_Mo_compareRows 6 = .ok (.getfield 41, 3) := by decide +kernel
theorem d_Mo_compareRows_9 : decode b_Mo_compareRows 9 = .ok (.iload_n 1, 1) := by decide +kernel
theorem d_Mo_compareRows_10 : decode b_Mo_compareRows 10 = .ok (.iaload, 1) := by decide +kernel
theorem d_Mo_compareRows_11 : decode b_Mo_compareRows 11 = .ok (.if_icmp .ge 164, 3) := by decide +kernel
theorem d_Mo_compareRows_14 : decode b_Mo_compareRows 14 = .ok (.aload_n 0, 1) := by decide +kernel
theorem d_Mo_compareRows_15 : decode b_Mo_compareRows 15 = .ok (.iload_n 2, 1) := by decide +kernel
theorem d_Mo_compareRows_16 : decode b_Mo_compareRows 16 = .ok (.aload_n 0, 1) := by decide +kernel
theorem d_Mo_compareRows_17 : decode b_Mo_compareRows 17 = .ok (.getfield 44, 3) := by decide +kernel
theorem d_Mo_compareRows_20 : decode b_Mo_compareRows 20 = .ok (.bipush 6, 2) := by decide +kernel
theorem d_Mo_compareRows_22 : decode b_Mo_compareRows 22 = .ok (.iload_n 1, 1) := by decide +kernel
theorem d_Mo_compareRows_23 : decode b_Mo_compareRows 23 = .ok (.imul, 1) := by decide +kernel
theorem d_Mo_compareRows_24 : decode b_Mo_compareRows 24 = .ok (.iload 4, 2) := by decide +kernel
theorem d_Mo_compareRows_26 : decode b_Mo_compareRows 26 = .ok (.iadd, 1) := by decide +kernel
theorem d_Mo_compareRows_27 : decode b_Mo_compareRows 27 = .ok (.iaload, 1) := by decide +kernel
theorem d_Mo_compareRows_28 : decode b_Mo_compareRows 28 = .ok (.aload_n 0, 1) := by decide +kernel
theorem d_Mo_compareRows_29 : decode b_Mo_compareRows 29 = .ok (.getfield 47, 3) := by decide +kernel
theorem d_Mo_compareRows_32 : decode b_Mo_compareRows 32 = .ok (.bipush 6, 2) := by decide +kernel
theorem d_Mo_compareRows_34 : decode b_Mo_compareRows 34 = .ok (.iload_n 1, 1) := by decide +kernel
theorem d_Mo_compareRows_35 : decode b_Mo_compareRows 35 = .ok (.imul, 1) := by decide +kernel
theorem d_Mo_compareRows_36 : decode b_Mo_compareRows 36 = .ok (.iload 4, 2) := by decide +kernel
theorem d_Mo_compareRows_38 : decode b_Mo_compareRows 38 = .ok (.iadd, 1) := by decide +kernel
theorem d_Mo_compareRows_39 : decode b_Mo_compareRows 39 = .ok (.iaload, 1) := by decide +kernel
theorem d_Mo_compareRows_40 : decode b_Mo_compareRows 40 = .ok (.invokevirtual 240, 3) := by decide +kernel
theorem d_Mo_compareRows_43 : decode b_Mo_compareRows 43 = .ok (.istore 5, 2) := by decide +kernel
theorem d_Mo_compareRows_45 : decode b_Mo_compareRows 45 = .ok (.aload_n 0, 1) := by decide +kernel
theorem d_Mo_compareRows_46 : decode b_Mo_compareRows 46 = .ok (.getfield 237, 3) := by decide +kernel
theorem d_Mo_compareRows_49 : decode b_Mo_compareRows 49 = .ok (.istore 6, 2) := by decide +kernel
theorem d_Mo_compareRows_51 : decode b_Mo_compareRows 51 = .ok (.aload_n 0, 1) := by decide +kernel
theorem d_Mo_compareRows_52 : decode b_Mo_compareRows 52 = .ok (.iload_n 3, 1) := by decide +kernel
theorem d_Mo_compareRows_53 : decode b_Mo_compareRows 53 = .ok (.aload_n 0, 1) := by decide +kernel
theorem d_Mo_compareRows_54 : decode b_Mo_compareRows 54 = .ok (.getfield 44, 3) := by decide +kernel
theorem d_Mo_compareRows_57 : decode b_Mo_compareRows 57 = .ok (.bipush 6, 2) := by decide +kernel
theorem d_Mo_compareRows_59 : decode b_Mo_compareRows 59 = .ok (.iload_n 1, 1) := by decide +kernel
theorem d_Mo_compareRows_60 : decode b_Mo_compareRows 60 = .ok (.imul, 1) := by decide +kernel
theorem d_Mo_compareRows_61 : decode b_Mo_compareRows 61 = .ok (.iload 4, 2) := by decide +kernel
theorem d_Mo_compareRows_63 : decode b_Mo_compareRows 63 = .ok (.iadd, 1) := by decide +kernel
theorem d_Mo_compareRows_64 : decode b_Mo_compareRows 64 = .ok (.iaload, 1) := by decide +kernel
theorem d_Mo_compareRows_65 : decode b_Mo_compareRows 65 = .ok (.aload_n 0, 1) := by decide +kernel
theorem d_Mo_compareRows_66 : decode b_Mo_compareRows 66 = .ok (.getfield 47, 3) := by decide +kernel
theorem d_Mo_compareRows_69 : decode b_Mo_compareRows 69 = .ok (.bipush 6, 2) := by decide +kernel
theorem d_Mo_compareRows_71 : decode b_Mo_compareRows 71 = .ok (.iload_n 1, 1) := by decide +kernel
theorem d_Mo_compareRows_72 : decode b_Mo_compareRows 72 = .ok (.imul, 1) := by decide +kernel
theorem d_Mo_compareRows_73 : decode b_Mo_compareRows 73 = .ok (.iload 4, 2) := by decide +kernel
theorem d_Mo_compareRows_75 : decode b_Mo_compareRows 75 = .ok (.iadd, 1) := by decide +kernel
theorem d_Mo_compareRows_76 : decode b_Mo_compareRows 76 = .ok (.iaload, 1) := by decide +kernel
theorem d_Mo_compareRows_77 : decode b_Mo_compareRows 77 = .ok (.invokevirtual 240, 3) := by decide +kernel
theorem d_Mo_compareRows_80 : decode b_Mo_compareRows 80 = .ok (.istore 7, 2) := by decide +kernel
theorem d_Mo_compareRows_82 : decode b_Mo_compareRows 82 = .ok (.aload_n 0, 1) := by decide +kernel
theorem d_Mo_compareRows_83 : decode b_Mo_compareRows 83 = .ok (.getfield 237, 3) := by decide +kernel
theorem d_Mo_compareRows_86 : decode b_Mo_compareRows 86 = .ok (.istore 8, 2) := by decide +kernel
theorem d_Mo_compareRows_88 : decode b_Mo_compareRows 88 = .ok (.iconst 0, 1) := by decide +kernel
theorem d_Mo_compareRows_89 : decode b_Mo_compareRows 89 = .ok (.istore 9, 2) := by decide +kernel
theorem d_Mo_compareRows_91 : decode b_Mo_compareRows 91 = .ok (.iload 9, 2) := by decide +kernel
theorem d_Mo_compareRows_93 : decode b_Mo_compareRows 93 = .ok (.iload 6, 2) := by decide +kernel
theorem d_Mo_compareRows_95 : decode b_Mo_compareRows 95 = .ok (.if_icmp .ge 61, 3) := by decide +kernel
theorem d_Mo_compareRows_98 : decode b_Mo_compareRows 98 = .ok (.iload 9, 2) := by decide +kernel
theorem d_Mo_compareRows_100 : decode b_Mo_compareRows 100 = .ok (.iload 8, 2) := by decide +kernel
theorem d_Mo_compareRows_102 : decode b_Mo_compareRows 102 = .ok (.if_icmp .ge 54, 3) := by decide +kernel
theorem d_Mo_compareRows_105 : decode b_Mo_compareRows 105 = .ok (.aload_n 0, 1) := by decide +kernel
theorem d_Mo_compareRows_106 : decode b_Mo_compareRows 106 = .ok (.getfield 15, 3) := by decide +kernel
theorem d_Mo_compareRows_109 : decode b_Mo_compareRows 109 = .ok (.iload 5, 2) := by decide +kernel
theorem d_Mo_compareRows_111 : decode b_Mo_compareRows 111 = .ok (.iload 9, 2) := by decide +kernel
theorem d_Mo_compareRows_113 : decode b_Mo_compareRows 113 = .ok (.iadd, 1) := by decide +kernel
theorem d_Mo_compareRows_114 : decode b_Mo_compareRows 114 = .ok (.baload, 1) := by decide +kernel
theorem d_Mo_compareRows_115 : decode b_Mo_compareRows 115 = .ok (.aload_n 0, 1) := by decide +kernel
theorem d_Mo_compareRows_116 : decode b_Mo_compareRows 116 = .ok (.getfield 15, 3) := by decide +kernel
theorem d_Mo_compareRows_119 : decode b_Mo_compareRows 119 = .ok (.iload 7, 2) := by decide +kernel
theorem d_Mo_compareRows_121 : decode b_Mo_compareRows 121 = .ok (.iload 9, 2) := by decide +kernel
theorem d_Mo_compareRows_123 : decode b_Mo_compareRows 123 = .ok (.iadd, 1) := by decide +kernel
theorem d_Mo_compareRows_124 : decode b_Mo_compareRows 124 = .ok (.baload, 1) := by decide +kernel
theorem d_Mo_compareRows_125 : decode b_Mo_compareRows 125 = .ok (.if_icmp .eq 25, 3) := by decide +kernel
theorem d_Mo_compareRows_128 : decode b_Mo_compareRows 128 = .ok (.aload_n 0, 1) := by decide +kernel
theorem d_Mo_compareRows_129 : decode b_Mo_compareRows 129 = .ok (.getfield 15, 3) := by decide +kernel
theorem d_Mo_compareRows_132 : decode b_Mo_compareRows 132 = .ok (.iload 5, 2) := by decide +kernel
theorem d_Mo_compareRows_134 : decode b_Mo_compareRows 134 = .ok (.iload 9, 2) := by decide +kernel
theorem d_Mo_compareRows_136 : decode b_Mo_compareRows 136 = .ok (.iadd, 1) := by decide +kernel
theorem d_Mo_compareRows_137 : decode b_Mo_compareRows 137 = .ok (.baload, 1) := by decide +kernel
theorem d_Mo_compareRows_138 : decode b_Mo_compareRows 138 = .ok (.aload_n 0, 1) := by decide +kernel
theorem d_Mo_compareRows_139 : decode b_Mo_compareRows 139 = .ok (.getfield 15, 3) := by decide +kernel
theorem d_Mo_compareRows_142 : decode b_Mo_compareRows 142 = .ok (.iload 7, 2) := by decide +kernel
theorem d_Mo_compareRows_144 : decode b_Mo_compareRows 144 = .ok (.iload 9, 2) := by decide +kernel
theorem d_Mo_compareRows_146 : decode b_Mo_compareRows 146 = .ok (.iadd, 1) := by decide +kernel
theorem d_Mo_compareRows_147 : decode b_Mo_compareRows 147 = .ok (.baload, 1) := by decide +kernel
theorem d_Mo_compareRows_148 : decode b_Mo_compareRows 148 = .ok (.isub, 1) := by decide +kernel
theorem d_Mo_compareRows_149 : decode b_Mo_compareRows 149 = .ok (.ireturn, 1) := by decide +kernel
theorem d_Mo_compareRows_150 : decode b_Mo_compareRows 150 = .ok (.iinc 9 1, 3) := by decide +kernel
theorem d_Mo_compareRows_153 : decode b_Mo_compareRows 153 = .ok (.goto (-62), 3) := by decide +kernel
theorem d_Mo_compareRows_156 : decode b_Mo_compareRows 156 = .ok (.iload 6, 2) := by decide +kernel
theorem d_Mo_compareRows_158 : decode b_Mo_compareRows 158 = .ok (.iload 8, 2) := by decide +kernel
theorem d_Mo_compareRows_160 : decode b_Mo_compareRows 160 = .ok (.if_icmp .eq 9, 3) := by decide +kernel
theorem d_Mo_compareRows_163 : decode b_Mo_compareRows 163 = .ok (.iload 6, 2) := by decide +kernel
theorem d_Mo_compareRows_165 : decode b_Mo_compareRows 165 = .ok (.iload 8, 2) := by decide +kernel
theorem d_Mo_compareRows_167 : decode b_Mo_compareRows 167 = .ok (.isub, 1) := by decide +kernel
theorem d_Mo_compareRows_168 : decode b_Mo_compareRows 168 = .ok (.ireturn, 1) := by decide +kernel
theorem d_Mo_compareRows_169 : decode b_Mo_compareRows 169 = .ok (.iinc 4 1, 3) := by decide +kernel
theorem d_Mo_compareRows_172 : decode b_Mo_compareRows 172 = .ok (.goto (-169), 3) := by decide +kernel
theorem d_Mo_compareRows_175 : decode b_Mo_compareRows 175 = .ok (.iconst 0, 1) := by decide +kernel
theorem d_Mo_compareRows_176 : decode b_Mo_compareRows 176 = .ok (.ireturn, 1) := by decide +kernel
theorem d_Mo_matches_0 : decode b_Mo_matches 0 = .ok (.iload_n 2, 1) := by decide +kernel
theorem d_Mo_matches_1 : decode b_Mo_matches 1 = .ok (.istore_n 3, 1) := by decide +kernel
theorem d_Mo_matches_2 : decode b_Mo_matches 2 = .ok (.iconst 1, 1) := by decide +kernel
theorem d_Mo_matches_3 : decode b_Mo_matches 3 = .ok (.istore 4, 2) := by decide +kernel
theorem d_Mo_matches_5 : decode b_Mo_matches 5 = .ok (.iload 4, 2) := by decide +kernel
theorem d_Mo_matches_7 : decode b_Mo_matches 7 = .ok (.ifCond .eq 353, 3) := by decide +kernel
theorem d_Mo_matches_10 : decode b_Mo_matches 10 = .ok (.aload_n 0, 1) := by decide +kernel
theorem d_Mo_matches_11 : decode b_Mo_matches 11 = .ok (.iload_n 3, 1) := by decide +kernel
theorem d_Mo_matches_12 : decode b_Mo_matches 12 = .ok (.invokevirtual 198, 3) := by decide +kernel
theorem d_Mo_matches_15 : decode b_Mo_matches 15 = .ok (.bipush 125, 2) := by decide +kernel
theorem d_Mo_matches_17 : decode b_Mo_matches 17 = .ok (.if_icmp .eq 343, 3) := by decide +kernel
theorem d_Mo_matches_20 : decode b_Mo_matches 20 = .ok (.aload_n 0, 1) := by decide +kernel
theorem d_Mo_matches_21 : decode b_Mo_matches 21 = .ok (.iload_n 3, 1) := by decide +kernel
theorem d_Mo_matches_22 : decode b_Mo_matches 22 = .ok (.invokevirtual 198, 3) := by decide +kernel
theorem d_Mo_matches_25 : decode b_Mo_matches 25 = .ok (.bipush 32, 2) := by decide +kernel
theorem d_Mo_matches_27 : decode b_Mo_matches 27 = .ok (.if_icmp .eq 13, 3) := by decide +kernel
theorem d_Mo_matches_30 : decode b_Mo_matches 30 = .ok (.aload_n 0, 1) := by decide +kernel
theorem d_Mo_matches_31 : decode b_Mo_matches 31 = .ok (.iload_n 3, 1) := by decide +kernel
theorem d_Mo_matches_32 : decode b_Mo_matches 32 = .ok (.invokevirtual 198, 3) := by decide +kernel
theorem d_Mo_matches_35 : decode b_Mo_matches 35 = .ok (.bipush 44, 2) := by decide +kernel
theorem d_Mo_matches_37 : decode b_Mo_matches 37 = .ok (.if_icmp .ne 9, 3) := by decide +kernel
theorem d_Mo_matches_40 : decode b_Mo_matches 40 = .ok (.iinc 3 1, 3) := by decide +kernel
theorem d_Mo_matches_43 : decode b_Mo_matches 43 = .ok (.goto (-38), 3) := by decide +kernel
theorem d_Mo_matches_46 : decode b_Mo_matches 46 = .ok (.iload_n 3, 1) := by decide +kernel
theorem d_Mo_matches_47 : decode b_Mo_matches 47 = .ok (.istore 5, 2) := by decide +kernel
theorem d_Mo_matches_49 : decode b_Mo_matches 49 = .ok (.aload_n 0, 1) := by decide +kernel
theorem d_Mo_matches_50 : decode b_Mo_matches 50 = .ok (.iload_n 3, 1) := by decide +kernel
theorem d_Mo_matches_51 : decode b_Mo_matches 51 = .ok (.invokevirtual 198, 3) := by decide +kernel
theorem d_Mo_matches_54 : decode b_Mo_matches 54 = .ok (.invokestatic 210, 3) := by decide +kernel
theorem d_Mo_matches_57 : decode b_Mo_matches 57 = .ok (.ifCond .ne 14, 3) := by decide +kernel
theorem d_Mo_matches_60 : decode b_Mo_matches 60 = .ok (.aload_n 0, 1) := by decide +kernel
theorem d_Mo_matches_61 : decode b_Mo_matches 61 = .ok (.iload_n 3, 1) := by decide +kernel
theorem d_Mo_matches_62 : decode b_Mo_matches 62 = .ok (.invokevirtual 198, 3) := by decide +kernel
theorem d_Mo_matches_65 : decode b_Mo_matches 65 = .ok (.invokestatic 204, 3) := by decide +kernel
theorem d_Mo_matches_68 : decode b_Mo_matches 68 = .ok (.ifCond .eq 9, 3) := by decide +kernel
theorem d_Mo_matches_71 : decode b_Mo_matches 71 = .ok (.iinc 3 1, 3) := by decide +kernel
theorem d_Mo_matches_74 : decode b_Mo_matches 74 = .ok (.goto (-25), 3) := by decide +kernel
theorem d_Mo_matches_77 : decode b_Mo_matches 77 = .ok (.aload_n 0, 1) := by decide +kernel
theorem d_Mo_matches_78 : decode b_Mo_matches 78 = .ok (.iload_n 1, 1) := by decide +kernel
theorem d_Mo_matches_79 : decode b_Mo_matches 79 = .ok (.iload 5, 2) := by decide +kernel
theorem d_Mo_matches_81 : decode b_Mo_matches 81 = .ok (.iload_n 3, 1) := by decide +kernel
theorem d_Mo_matches_82 : decode b_Mo_matches 82 = .ok (.iload 5, 2) := by decide +kernel
theorem d_Mo_matches_84 : decode b_Mo_matches 84 = .ok (.isub, 1) := by decide +kernel
theorem d_Mo_matches_85 : decode b_Mo_matches 85 = .ok (.invokevirtual 240, 3) := by decide +kernel
theorem d_Mo_matches_88 : decode b_Mo_matches 88 = .ok (.istore 6, 2) := by decide +kernel
theorem d_Mo_matches_90 : decode b_Mo_matches 90 = .ok (.aload_n 0, 1) := by decide +kernel
theorem d_Mo_matches_91 : decode b_Mo_matches 91 = .ok (.getfield 237, 3) := by decide +kernel
theorem d_Mo_matches_94 : decode b_Mo_matches 94 = .ok (.istore 7, 2) := by decide +kernel
theorem d_Mo_matches_96 : decode b_Mo_matches 96 = .ok (.aload_n 0, 1) := by decide +kernel
theorem d_Mo_matches_97 : decode b_Mo_matches 97 = .ok (.iload_n 3, 1) := by decide +kernel
theorem d_Mo_matches_98 : decode b_Mo_matches 98 = .ok (.invokevirtual 198, 3) := by decide +kernel
theorem d_Mo_matches_101 : decode b_Mo_matches 101 = .ok (.bipush 32, 2) := by decide +kernel
theorem d_Mo_matches_103 : decode b_Mo_matches 103 = .ok (.if_icmp .ne 9, 3) := by decide +kernel
theorem d_Mo_matches_106 : decode b_Mo_matches 106 = .ok (.iinc 3 1, 3) := by decide +kernel
theorem d_Mo_matches_109 : decode b_Mo_matches 109 = .ok (.goto (-13), 3) := by decide +kernel
theorem d_Mo_matches_112 : decode b_Mo_matches 112 = .ok (.aload_n 0, 1) := by decide +kernel
theorem d_Mo_matches_113 : decode b_Mo_matches 113 = .ok (.iload_n 3, 1) := by decide +kernel
theorem d_Mo_matches_114 : decode b_Mo_matches 114 = .ok (.invokevirtual 198, 3) := by decide +kernel
theorem d_Mo_matches_117 : decode b_Mo_matches 117 = .ok (.bipush 61, 2) := by decide +kernel
theorem d_Mo_matches_119 : decode b_Mo_matches 119 = .ok (.if_icmp .ne 7, 3) := by decide +kernel
theorem d_Mo_matches_122 : decode b_Mo_matches 122 = .ok (.iconst 0, 1) := by decide +kernel
theorem d_Mo_matches_123 : decode b_Mo_matches 123 = .ok (.goto 34, 3) := by decide +kernel
theorem d_Mo_matches_126 : decode b_Mo_matches 126 = .ok (.aload_n 0, 1) := by decide +kernel
theorem d_Mo_matches_127 : decode b_Mo_matches 127 = .ok (.iload_n 3, 1) := by decide +kernel
theorem d_Mo_matches_128 : decode b_Mo_matches 128 = .ok (.iconst 1, 1) := by decide +kernel
theorem d_Mo_matches_129 : decode b_Mo_matches 129 = .ok (.iadd, 1) := by decide +kernel
theorem d_Mo_matches_130 : decode b_Mo_matches 130 = .ok (.invokevirtual 198, 3) := by decide +kernel
theorem d_Mo_matches_133 : decode b_Mo_matches 133 = .ok (.bipush 61, 2) := by decide +kernel
theorem d_Mo_matches_135 : decode b_Mo_matches 135 = .ok (.if_icmp .ne 21, 3) := by decide +kernel
theorem d_Mo_matches_138 : decode b_Mo_matches 138 = .ok (.aload_n 0, 1) := by decide +kernel
theorem d_Mo_matches_139 : decode b_Mo_matches 139 = .ok (.iload_n 3, 1) := by decide +kernel
theorem d_Mo_matches_140 : decode b_Mo_matches 140 = .ok (.invokevirtual 198, 3) := by decide +kernel
theorem d_Mo_matches_143 : decode b_Mo_matches 143 = .ok (.bipush 33, 2) := by decide +kernel
theorem d_Mo_matches_145 : decode b_Mo_matches 145 = .ok (.if_icmp .ne 7, 3) := by decide +kernel
theorem d_Mo_matches_148 : decode b_Mo_matches 148 = .ok (.iconst 1, 1) := by decide +kernel
theorem d_Mo_matches_149 : decode b_Mo_matches 149 = .ok (.goto 8, 3) := by decide +kernel
theorem d_Mo_matches_152 : decode b_Mo_matches 152 = .ok (.iconst 2, 1) := by decide +kernel
theorem d_Mo_matches_153 : decode b_Mo_matches 153 = .ok (.goto 4, 3) := by decide +kernel
theorem d_Mo_matches_156 : decode b_Mo_matches 156 = .ok (.iconst 3, 1) := by decide +kernel
theorem d_Mo_matches_157 : decode b_Mo_matches 157 = .ok (.istore 8, 2) := by decide +kernel
theorem d_Mo_matches_159 : decode b_Mo_matches 159 = .ok (.iload_n 3, 1) := by decide +kernel
theorem d_Mo_matches_160 : decode b_Mo_matches 160 = .ok (.iload 8, 2) := by decide +kernel
theorem d_Mo_matches_162 : decode b_Mo_matches 162 = .ok (.ifCond .ne 7, 3) := by decide +kernel
theorem d_Mo_matches_165 : decode b_Mo_matches 165 = .ok (.iconst 1, 1) := by decide +kernel
theorem d_Mo_matches_166 : decode b_Mo_matches 166 = .ok (.goto 4, 3) := by decide +kernel
theorem d_Mo_matches_169 : decode b_Mo_matches 169 = .ok (.iconst 2, 1) := by decide +kernel
theorem d_Mo_matches_170 : decode b_Mo_matches 170 = .ok (.iadd, 1) := by decide +kernel
theorem d_Mo_matches_171 : decode b_Mo_matches 171 = .ok (.istore_n 3, 1) := by decide +kernel
theorem d_Mo_matches_172 : decode b_Mo_matches 172 = .ok (.aload_n 0, 1) := by decide +kernel
theorem d_Mo_matches_173 : decode b_Mo_matches 173 = .ok (.iload_n 3, 1) := by decide +kernel
theorem d_Mo_matches_174 : decode b_Mo_matches 174 = .ok (.invokevirtual 198, 3) := by decide +kernel
theorem d_Mo_matches_177 : decode b_Mo_matches 177 = .ok (.bipush 32, 2) := by decide +kernel
theorem d_Mo_matches_179 : decode b_Mo_matches 179 = .ok (.if_icmp .ne 9, 3) := by decide +kernel
theorem d_Mo_matches_182 : decode b_Mo_matches 182 = .ok (.iinc 3 1, 3) := by decide +kernel
theorem d_Mo_matches_185 : decode b_Mo_matches 185 = .ok (.goto (-13), 3) := by decide +kernel
theorem d_Mo_matches_188 : decode b_Mo_matches 188 = .ok (.iload_n 3, 1) := by decide +kernel
theorem d_Mo_matches_189 : decode b_Mo_matches 189 = .ok (.iconst 1, 1) := by decide +kernel
theorem d_Mo_matches_190 : decode b_Mo_matches 190 = .ok (.iadd, 1) := by decide +kernel
theorem d_Mo_matches_191 : decode b_Mo_matches 191 = .ok (.istore 9, 2) := by decide +kernel
theorem d_Mo_matches_193 : decode b_Mo_matches 193 = .ok (.iinc 3 1, 3) := by decide +kernel
theorem d_Mo_matches_196 : decode b_Mo_matches 196 = .ok (.aload_n 0, 1) := by decide +kernel
theorem d_Mo_matches_197 : decode b_Mo_matches 197 = .ok (.iload_n 3, 1) := by decide +kernel
theorem d_Mo_matches_198 : decode b_Mo_matches 198 = .ok (.invokevirtual 198, 3) := by decide +kernel
theorem d_Mo_matches_201 : decode b_Mo_matches 201 = .ok (.bipush 34, 2) := by decide +kernel
theorem d_Mo_matches_203 : decode b_Mo_matches 203 = .ok (.if_icmp .eq 9, 3) := by decide +kernel
theorem d_Mo_matches_206 : decode b_Mo_matches 206 = .ok (.iinc 3 1, 3) := by decide +kernel
theorem d_Mo_matches_209 : decode b_Mo_matches 209 = .ok (.goto (-13), 3) := by decide +kernel
theorem d_Mo_matches_212 : decode b_Mo_matches 212 = .ok (.iload_n 3, 1) := by decide +kernel
theorem d_Mo_matches_213 : decode b_Mo_matches 213 = .ok (.iload 9, 2) := by decide +kernel
theorem d_Mo_matches_215 : decode b_Mo_matches 215 = .ok (.isub, 1) := by decide +kernel
theorem d_Mo_matches_216 : decode b_Mo_matches 216 = .ok (.istore 10, 2) := by decide +kernel
theorem d_Mo_matches_218 : decode b_Mo_matches 218 = .ok (.iinc 3 1, 3) := by decide +kernel
theorem d_Mo_matches_221 : decode b_Mo_matches 221 = .ok (.iload 7, 2) := by decide +kernel
theorem d_Mo_matches_223 : decode b_Mo_matches 223 = .ok (.iload 10, 2) := by decide +kernel
theorem d_Mo_matches_225 : decode b_Mo_matches 225 = .ok (.if_icmp .lt 7, 3) := by decide +kernel
theorem d_Mo_matches_228 : decode b_Mo_matches 228 = .ok (.iconst 1, 1) := by decide +kernel
theorem d_Mo_matches_229 : decode b_Mo_matches 229 = .ok (.goto 4, 3) := by decide +kernel
theorem d_Mo_matches_232 : decode b_Mo_matches 232 = .ok (.iconst 0, 1) := by decide +kernel
theorem d_Mo_matches_233 : decode b_Mo_matches 233 = .ok (.istore 11, 2) := by decide +kernel
theorem d_Mo_matches_235 : decode b_Mo_matches 235 = .ok (.iconst 0, 1) := by decide +kernel
theorem d_Mo_matches_236 : decode b_Mo_matches 236 = .ok (.istore 12, 2) := by decide +kernel
theorem d_Mo_matches_238 : decode b_Mo_matches 238 = .ok (.iload 12, 2) := by decide +kernel
theorem d_Mo_matches_240 : decode b_Mo_matches 240 = .ok (.iload 10, 2) := by decide +kernel
theorem d_Mo_matches_242 : decode b_Mo_matches 242 = .ok (.if_icmp .ge 44, 3) := by decide +kernel
theorem d_Mo_matches_245 : decode b_Mo_matches 245 = .ok (.iload 11, 2) := by decide +kernel
theorem d_Mo_matches_247 : decode b_Mo_matches 247 = .ok (.ifCond .eq 39, 3) := by decide +kernel
theorem d_Mo_matches_250 : decode b_Mo_matches 250 = .ok (.aload_n 0, 1) := by decide +kernel
theorem d_Mo_matches_251 : decode b_Mo_matches 251 = .ok (.getfield 15, 3) := by decide +kernel
theorem d_Mo_matches_254 : decode b_Mo_matches 254 = .ok (.iload 6, 2) := by decide +kernel
theorem d_Mo_matches_256 : decode b_Mo_matches 256 = .ok (.iload 12, 2) := by decide +kernel
theorem d_Mo_matches_258 : decode b_Mo_matches 258 = .ok (.iadd, 1) := by decide +kernel
theorem d_Mo_matches_259 : decode b_Mo_matches 259 = .ok (.baload, 1) := by decide +kernel
theorem d_Mo_matches_260 : decode b_Mo_matches 260 = .ok (.aload_n 0, 1) := by decide +kernel
theorem d_Mo_matches_261 : decode b_Mo_matches 261 = .ok (.getfield 8, 3) := by decide +kernel
theorem d_Mo_matches_264 : decode b_Mo_matches 264 = .ok (.iload 9, 2) := by decide +kernel
theorem d_Mo_matches_266 : decode b_Mo_matches 266 = .ok (.iload 12, 2) := by decide +kernel
theorem d_Mo_matches_268 : decode b_Mo_matches 268 = .ok (.iadd, 1) := by decide +kernel
theorem d_Mo_matches_269 : decode b_Mo_matches 269 = .ok (.baload, 1) := by decide +kernel
theorem d_Mo_matches_270 : decode b_Mo_matches 270 = .ok (.if_icmp .ne 7, 3) := by decide +kernel
theorem d_Mo_matches_273 : decode b_Mo_matches 273 = .ok (.iconst 1, 1) := by decide +kernel
theorem d_Mo_matches_274 : decode b_Mo_matches 274 = .ok (.goto 4, 3) := by decide +kernel
theorem d_Mo_matches_277 : decode b_Mo_matches 277 = .ok (.iconst 0, 1) := by decide +kernel
theorem d_Mo_matches_278 : decode b_Mo_matches 278 = .ok (.istore 11, 2) := by decide +kernel
theorem d_Mo_matches_280 : decode b_Mo_matches 280 = .ok (.iinc 12 1, 3) := by decide +kernel
theorem d_Mo_matches_283 : decode b_Mo_matches 283 = .ok (.goto (-45), 3) := by decide +kernel
theorem d_Mo_matches_286 : decode b_Mo_matches 286 = .ok (.iload 11, 2) := by decide +kernel
theorem d_Mo_matches_288 : decode b_Mo_matches 288 = .ok (.ifCond .eq 14, 3) := by decide +kernel
theorem d_Mo_matches_291 : decode b_Mo_matches 291 = .ok (.iload 7, 2) := by decide +kernel
theorem d_Mo_matches_293 : decode b_Mo_matches 293 = .ok (.iload 10, 2) := by decide +kernel
theorem d_Mo_matches_295 : decode b_Mo_matches 295 = .ok (.if_icmp .ne 7, 3) := by decide +kernel
theorem d_Mo_matches_298 : decode b_Mo_matches 298 = .ok (.iconst 1, 1) := by decide +kernel
theorem d_Mo_matches_299 : decode b_Mo_matches 299 = .ok (.goto 4, 3) := by decide +kernel
theorem d_Mo_matches_302 : decode b_Mo_matches 302 = .ok (.iconst 0, 1) := by decide +kernel
theorem d_Mo_matches_303 : decode b_Mo_matches 303 = .ok (.istore 12, 2) := by decide +kernel
theorem d_Mo_matches_305 : decode b_Mo_matches 305 = .ok (.iload 8, 2) := by decide +kernel
theorem d_Mo_matches_307 : decode b_Mo_matches 307 = .ok (.ifCond .ne 8, 3) := by decide +kernel
theorem d_Mo_matches_310 : decode b_Mo_matches 310 = .ok (.iload 12, 2) := by decide +kernel
theorem d_Mo_matches_312 : decode b_Mo_matches 312 = .ok (.goto 43, 3) := by decide +kernel
theorem d_Mo_matches_315 : decode b_Mo_matches 315 = .ok (.iload 8, 2) := by decide +kernel
theorem d_Mo_matches_317 : decode b_Mo_matches 317 = .ok (.iconst 1, 1) := by decide +kernel
theorem d_Mo_matches_318 : decode b_Mo_matches 318 = .ok (.if_icmp .ne 16, 3) := by decide +kernel
theorem d_Mo_matches_321 : decode b_Mo_matches 321 = .ok (.iload 12, 2) := by decide +kernel
theorem d_Mo_matches_323 : decode b_Mo_matches 323 = .ok (.ifCond .ne 7, 3) := by decide +kernel
theorem d_Mo_matches_326 : decode b_Mo_matches 326 = .ok (.iconst 1, 1) := by decide +kernel
theorem d_Mo_matches_327 : decode b_Mo_matches 327 = .ok (.goto 28, 3) := by decide +kernel
theorem d_Mo_matches_330 : decode b_Mo_matches 330 = .ok (.iconst 0, 1) := by decide +kernel
theorem d_Mo_matches_331 : decode b_Mo_matches 331 = .ok (.goto 24, 3) := by decide +kernel
theorem d_Mo_matches_334 : decode b_Mo_matches 334 = .ok (.iload 8, 2) := by decide +kernel
theorem d_Mo_matches_336 : decode b_Mo_matches 336 = .ok (.iconst 2, 1) := by decide +kernel
theorem d_Mo_matches_337 : decode b_Mo_matches 337 = .ok (.if_icmp .ne 8, 3) := by decide +kernel
theorem d_Mo_matches_340 : decode b_Mo_matches 340 = .ok (.iload 11, 2) := by decide +kernel
theorem d_Mo_matches_342 : decode b_Mo_matches 342 = .ok (.goto 13, 3) := by decide +kernel
theorem d_Mo_matches_345 : decode b_Mo_matches 345 = .ok (.iload 11, 2) := by decide +kernel
theorem d_Mo_matches_347 : decode b_Mo_matches 347 = .ok (.ifCond .ne 7, 3) := by decide +kernel
theorem d_Mo_matches_350 : decode b_Mo_matches 350 = .ok (.iconst 1, 1) := by decide +kernel
theorem d_Mo_matches_351 : decode b_Mo_matches 351 = .ok (.goto 4, 3) := by decide +kernel
theorem d_Mo_matches_354 : decode b_Mo_matches 354 = .ok (.iconst 0, 1) := by decide +kernel
theorem d_Mo_matches_355 : decode b_Mo_matches 355 = .ok (.istore 4, 2) := by decide +kernel
theorem d_Mo_matches_357 : decode b_Mo_matches 357 = .ok (.goto (-352), 3) := by decide +kernel
theorem d_Mo_matches_360 : decode b_Mo_matches 360 = .ok (.iload 4, 2) := by decide +kernel
theorem d_Mo_matches_362 : decode b_Mo_matches 362 = .ok (.ireturn, 1) := by decide +kernel
theorem d_Mo_group_0 : decode b_Mo_group 0 = .ok (.aload_n 0, 1) := by decide +kernel
theorem d_Mo_group_1 : decode b_Mo_group 1 = .ok (.getfield 50, 3) := by decide +kernel
theorem d_Mo_group_4 : decode b_Mo_group 4 = .ok (.iload_n 1, 1) := by decide +kernel
theorem d_Mo_group_5 : decode b_Mo_group 5 = .ok (.iconst 0, 1) := by decide +kernel
theorem d_Mo_group_6 : decode b_Mo_group 6 = .ok (.iastore, 1) := by decide +kernel
theorem d_Mo_group_7 : decode b_Mo_group 7 = .ok (.iconst 0, 1) := by decide +kernel
theorem d_Mo_group_8 : decode b_Mo_group 8 = .ok (.istore_n 3, 1) := by decide +kernel
theorem d_Mo_group_9 : decode b_Mo_group 9 = .ok (.iload_n 3, 1) := by decide +kernel
theorem d_Mo_group_10 : decode b_Mo_group 10 = .ok (.aload_n 0, 1) := by decide +kernel
theorem d_Mo_group_11 : decode b_Mo_group 11 = .ok (.getfield 133, 3) := by decide +kernel
theorem d_Mo_group_14 : decode b_Mo_group 14 = .ok (.if_icmp .ge 244, 3) := by decide +kernel
theorem d_Mo_group_17 : decode b_Mo_group 17 = .ok (.aload_n 0, 1) := by decide +kernel
theorem d_Mo_group_18 : decode b_Mo_group 18 = .ok (.getfield 67, 3) := by decide +kernel
theorem d_Mo_group_21 : decode b_Mo_group 21 = .ok (.iload_n 3, 1) := by decide +kernel
theorem d_Mo_group_22 : decode b_Mo_group 22 = .ok (.iconst (-1), 1) := by decide +kernel
theorem d_Mo_group_23 : decode b_Mo_group 23 = .ok (.iastore, 1) := by decide +kernel
theorem d_Mo_group_24 : decode b_Mo_group 24 = .ok (.aload_n 0, 1) := by decide +kernel
theorem d_Mo_group_25 : decode b_Mo_group 25 = .ok (.getfield 79, 3) := by decide +kernel
theorem d_Mo_group_28 : decode b_Mo_group 28 = .ok (.iload_n 3, 1) := by decide +kernel
theorem d_Mo_group_29 : decode b_Mo_group 29 = .ok (.iconst 0, 1) := by decide +kernel
theorem d_Mo_group_30 : decode b_Mo_group 30 = .ok (.bastore, 1) := by decide +kernel
theorem d_Mo_group_31 : decode b_Mo_group 31 = .ok (.aload_n 0, 1) := by decide +kernel
theorem d_Mo_group_32 : decode b_Mo_group 32 = .ok (.iload_n 3, 1) := by decide +kernel
theorem d_Mo_group_33 : decode b_Mo_group 33 = .ok (.iload_n 2, 1) := by decide +kernel
theorem d_Mo_group_34 : decode b_Mo_group 34 = .ok (.invokevirtual 244, 3) := by decide +kernel
theorem d_Mo_group_37 : decode b_Mo_group 37 = .ok (.ifCond .ne 6, 3) := by decide +kernel
theorem d_Mo_group_40 : decode b_Mo_group 40 = .ok (.goto 212, 3) := by decide +kernel
theorem d_Mo_group_43 : decode b_Mo_group 43 = .ok (.iconst 0, 1) := by decide +kernel
theorem d_Mo_group_44 : decode b_Mo_group 44 = .ok (.istore 4, 2) := by decide +kernel
theorem d_Mo_group_46 : decode b_Mo_group 46 = .ok (.iload 4, 2) := by decide +kernel
theorem d_Mo_group_48 : decode b_Mo_group 48 = .ok (.aload_n 0, 1) := by decide +kernel
theorem d_Mo_group_49 : decode b_Mo_group 49 = .ok (.getfield 50, 3) := by decide +kernel
theorem d_Mo_group_52 : decode b_Mo_group 52 = .ok (.iload_n 1, 1) := by decide +kernel
theorem d_Mo_group_53 : decode b_Mo_group 53 = .ok (.iaload, 1) := by decide +kernel
theorem d_Mo_group_54 : decode b_Mo_group 54 = .ok (.if_icmp .ge 31, 3) := by decide +kernel
theorem d_Mo_group_57 : decode b_Mo_group 57 = .ok (.aload_n 0, 1) := by decide +kernel
theorem d_Mo_group_58 : decode b_Mo_group 58 = .ok (.iload_n 1, 1) := by decide +kernel
theorem d_Mo_group_59 : decode b_Mo_group 59 = .ok (.aload_n 0, 1) := by decide +kernel
theorem d_Mo_group_60 : decode b_Mo_group 60 = .ok (.getfield 53, 3) := by decide +kernel
theorem d_Mo_group_63 : decode b_Mo_group 63 = .ok (.sipush 256, 3) := by decide +kernel
theorem d_Mo_group_66 : decode b_Mo_group 66 = .ok (.iload_n 1, 1) := by decide +kernel
theorem d_Mo_group_67 : decode b_Mo_group 67 = .ok (.imul, 1) := by decide +kernel
theorem d_Mo_group_68 : decode b_Mo_group 68 = .ok (.iload 4, 2) := by decide +kernel
theorem d_Mo_group_70 : decode b_Mo_group 70 = .ok (.iadd, 1) := by decide +kernel
theorem d_Mo_group_71 : decode b_Mo_group 71 = .ok (.iaload, 1) := by decide +kernel
theorem d_Mo_group_72 : decode b_Mo_group 72 = .ok (.iload_n 3, 1) := by decide +kernel
theorem d_Mo_group_73 : decode b_Mo_group 73 = .ok (.invokevirtual 247, 3) := by decide +kernel
theorem d_Mo_group_76 : decode b_Mo_group 76 = .ok (.ifCond .ge 9, 3) := by decide +kernel
theorem d_Mo_group_79 : decode b_Mo_group 79 = .ok (.iinc 4 1, 3) := by decide +kernel
theorem d_Mo_group_82 : decode b_Mo_group 82 = .ok (.goto (-36), 3) := by decide +kernel
theorem d_Mo_group_85 : decode b_Mo_group 85 = .ok (.iload 4, 2) := by decide +kernel
theorem d_Mo_group_87 : decode b_Mo_group 87 = .ok (.aload_n 0, 1) := by decide +kernel
theorem d_Mo_group_88 : decode b_Mo_group 88 = .ok (.getfield 50, 3) := by decide +kernel
theorem d_Mo_group_91 : decode b_Mo_group 91 = .ok (.iload_n 1, 1) := by decide +kernel
theorem d_Mo_group_92 : decode b_Mo_group 92 = .ok (.iaload, 1) := by decide +kernel
theorem d_Mo_group_93 : decode b_Mo_group 93 = .ok (.if_icmp .eq 25, 3) := by decide +kernel
theorem d_Mo_group_96 : decode b_Mo_group 96 = .ok (.aload_n 0, 1) := by decide +kernel
theorem d_Mo_group_97 : decode b_Mo_group 97 = .ok (.iload_n 1, 1) := by decide +kernel
theorem d_Mo_group_98 : decode b_Mo_group 98 = .ok (.aload_n 0, 1) := by decide +kernel
theorem d_Mo_group_99 : decode b_Mo_group 99 = .ok (.getfield 53, 3) := by decide +kernel
theorem d_Mo_group_102 : decode b_Mo_group 102 = .ok (.sipush 256, 3) := by decide +kernel
theorem d_Mo_group_105 : decode b_Mo_group 105 = .ok (.iload_n 1, 1) := by decide +kernel
theorem d_Mo_group_106 : decode b_Mo_group 106 = .ok (.imul, 1) := by decide +kernel
theorem d_Mo_group_107 : decode b_Mo_group 107 = .ok (.iload 4, 2) := by decide +kernel
theorem d_Mo_group_109 : decode b_Mo_group 109 = .ok (.iadd, 1) := by decide +kernel
theorem d_Mo_group_110 : decode b_Mo_group 110 = .ok (.iaload, 1) := by decide +kernel
theorem d_Mo_group_111 : decode b_Mo_group 111 = .ok (.iload_n 3, 1) := by decide +kernel
theorem d_Mo_group_112 : decode b_Mo_group 112 = .ok (.invokevirtual 247, 3) := by decide +kernel
theorem d_Mo_group_115 : decode b_Mo_group 115 = .ok (.ifCond .le 129, 3) := by decide +kernel
theorem d_Mo_group_118 : decode b_Mo_group 118 = .ok (.aload_n 0, 1) := by decide +kernel
theorem d_Mo_group_119 : decode b_Mo_group 119 = .ok (.getfield 50, 3) := by decide +kernel
theorem d_Mo_group_122 : decode b_Mo_group 122 = .ok (.iload_n 1, 1) := by decide +kernel
theorem d_Mo_group_123 : decode b_Mo_group 123 = .ok (.iaload, 1) := by decide +kernel
theorem d_Mo_group_124 : decode b_Mo_group 124 = .ok (.istore 5, 2) := by decide +kernel
theorem d_Mo_group_126 : decode b_Mo_group 126 = .ok (.iload 5, 2) := by decide +kernel
theorem d_Mo_group_128 : decode b_Mo_group 128 = .ok (.iload 4, 2) := by decide +kernel
theorem d_Mo_group_130 : decode b_Mo_group 130 = .ok (.if_icmp .le 37, 3) := by decide +kernel
theorem d_Mo_group_133 : decode b_Mo_group 133 = .ok (.aload_n 0, 1) := by decide +kernel
theorem d_Mo_group_134 : decode b_Mo_group 134 = .ok (.getfield 53, 3) := by decide +kernel
theorem d_Mo_group_137 : decode b_Mo_group 137 = .ok (.sipush 256, 3) := by decide +kernel
theorem d_Mo_group_140 : decode b_Mo_group 140 = .ok (.iload_n 1, 1) := by decide +kernel
theorem d_Mo_group_141 : decode b_Mo_group 141 = .ok (.imul, 1) := by decide +kernel
theorem d_Mo_group_142 : decode b_Mo_group 142 = .ok (.iload 5, 2) := by decide +kernel
theorem d_Mo_group_144 : decode b_Mo_group 144 = .ok (.iadd, 1) := by decide +kernel
theorem d_Mo_group_145 : decode b_Mo_group 145 = .ok (.aload_n 0, 1) := by decide +kernel
theorem d_Mo_group_146 : decode b_Mo_group 146 = .ok (.getfield 53, 3) := by decide +kernel
theorem d_Mo_group_149 : decode b_Mo_group 149 = .ok (.sipush 256, 3) := by decide +kernel
theorem d_Mo_group_152 : decode b_Mo_group 152 = .ok (.iload_n 1, 1) := by decide +kernel
theorem d_Mo_group_153 : decode b_Mo_group 153 = .ok (.imul, 1) := by decide +kernel
theorem d_Mo_group_154 : decode b_Mo_group 154 = .ok (.iload 5, 2) := by decide +kernel
theorem d_Mo_group_156 : decode b_Mo_group 156 = .ok (.iadd, 1) := by decide +kernel
theorem d_Mo_group_157 : decode b_Mo_group 157 = .ok (.iconst 1, 1) := by decide +kernel
theorem d_Mo_group_158 : decode b_Mo_group 158 = .ok (.isub, 1) := by decide +kernel
theorem d_Mo_group_159 : decode b_Mo_group 159 = .ok (.iaload, 1) := by decide +kernel
theorem d_Mo_group_160 : decode b_Mo_group 160 = .ok (.iastore, 1) := by decide +kernel
theorem d_Mo_group_161 : decode b_Mo_group 161 = .ok (.iinc 5 (-1), 3) := by decide +kernel
theorem d_Mo_group_164 : decode b_Mo_group 164 = .ok (.goto (-38), 3) := by decide +kernel
theorem d_Mo_group_167 : decode b_Mo_group 167 = .ok (.iconst 0, 1) := by decide +kernel
theorem d_Mo_group_168 : decode b_Mo_group 168 = .ok (.istore 5, 2) := by decide +kernel
theorem d_Mo_group_170 : decode b_Mo_group 170 = .ok (.iload 5, 2) := by decide +kernel
theorem d_Mo_group_172 : decode b_Mo_group 172 = .ok (.iload_n 3, 1) := by decide +kernel
theorem d_Mo_group_173 : decode b_Mo_group 173 = .ok (.if_icmp .ge 47, 3) := by decide +kernel
theorem d_Mo_group_176 : decode b_Mo_group 176 = .ok (.aload_n 0, 1) := by decide +kernel
theorem d_Mo_group_177 : decode b_Mo_group 177 = .ok (.getfield 67, 3) := by decide +kernel
theorem d_Mo_group_180 : decode b_Mo_group 180 = .ok (.iload 5, 2) := by decide +kernel
theorem d_Mo_group_182 : decode b_Mo_group 182 = .ok (.aload_n 0, 1) := by decide +kernel
theorem d_Mo_group_183 : decode b_Mo_group 183 = .ok (.getfield 67, 3) := by decide +kernel
theorem d_Mo_group_186 : decode b_Mo_group 186 = .ok (.iload 5, 2) := by decide +kernel
theorem d_Mo_group_188 : decode b_Mo_group 188 = .ok (.iaload, 1) := by decide +kernel
theorem d_Mo_group_189 : decode b_Mo_group 189 = .ok (.iload 4, 2) := by decide +kernel
theorem d_Mo_group_191 : decode b_Mo_group 191 = .ok (.if_icmp .lt 15, 3) := by decide +kernel
theorem d_Mo_group_194 : decode b_Mo_group 194 = .ok (.aload_n 0, 1) := by decide +kernel
theorem d_Mo_group_195 : decode b_Mo_group 195 = .ok (.getfield 67, 3) := by decide +kernel
theorem d_Mo_group_198 : decode b_Mo_group 198 = .ok (.iload 5, 2) := by decide +kernel
theorem d_Mo_group_200 : decode b_Mo_group 200 = .ok (.iaload, 1) := by decide +kernel
theorem d_Mo_group_201 : decode b_Mo_group 201 = .ok (.iconst 1, 1) := by decide +kernel
theorem d_Mo_group_202 : decode b_Mo_group 202 = .ok (.iadd, 1) := by decide +kernel
theorem d_Mo_group_203 : decode b_Mo_group 203 = .ok (.goto 10, 3) := by decide +kernel
theorem d_Mo_group_206 : decode b_Mo_group 206 = .ok (.aload_n 0, 1) := by decide +kernel
theorem d_Mo_group_207 : decode b_Mo_group 207 = .ok (.getfield 67, 3) := by decide +kernel
theorem d_Mo_group_210 : decode b_Mo_group 210 = .ok (.iload 5, 2) := by decide +kernel
theorem d_Mo_group_212 : decode b_Mo_group 212 = .ok (.iaload, 1) := by decide +kernel
theorem d_Mo_group_213 : decode b_Mo_group 213 = .ok (.iastore, 1) := by decide +kernel
theorem d_Mo_group_214 : decode b_Mo_group 214 = .ok (.iinc 5 1, 3) := by decide +kernel
theorem d_Mo_group_217 : decode b_Mo_group 217 = .ok (.goto (-47), 3) := by decide +kernel
theorem d_Mo_group_220 : decode b_Mo_group 220 = .ok (.aload_n 0, 1) := by decide +kernel
theorem d_Mo_group_221 : decode b_Mo_group 221 = .ok (.getfield 53, 3) := by decide +kernel
theorem d_Mo_group_224 : decode b_Mo_group 224 = .ok (.sipush 256, 3) := by decide +kernel
theorem d_Mo_group_227 : decode b_Mo_group 227 = .ok (.iload_n 1, 1) := by decide +kernel
theorem d_Mo_group_228 : decode b_Mo_group 228 = .ok (.imul, 1) := by decide +kernel
theorem d_Mo_group_229 : decode b_Mo_group 229 = .ok (.iload 4, 2) := by decide +kernel
theorem d_Mo_group_231 : decode b_Mo_group 231 = .ok (.iadd, 1) := by decide +kernel
theorem d_Mo_group_232 : decode b_Mo_group 232 = .ok (.iload_n 3, 1) := by decide +kernel
theorem d_Mo_group_233 : decode b_Mo_group 233 = .ok (.iastore, 1) := by decide +kernel
theorem d_Mo_group_234 : decode b_Mo_group 234 = .ok (.aload_n 0, 1) := by decide +kernel
theorem d_Mo_group_235 : decode b_Mo_group 235 = .ok (.getfield 50, 3) := by decide +kernel
theorem d_Mo_group_238 : decode b_Mo_group 238 = .ok (.iload_n 1, 1) := by decide +kernel
theorem d_Mo_group_239 : decode b_Mo_group 239 = .ok (.dup2, 1) := by decide +kernel
theorem d_Mo_group_240 : decode b_Mo_group 240 = .ok (.iaload, 1) := by decide +kernel
theorem d_Mo_group_241 : decode b_Mo_group 241 = .ok (.iconst 1, 1) := by decide +kernel
theorem d_Mo_group_242 : decode b_Mo_group 242 = .ok (.iadd, 1) := by decide +kernel
theorem d_Mo_group_243 : decode b_Mo_group 243 = .ok (.iastore, 1) := by decide +kernel
theorem d_Mo_group_244 : decode b_Mo_group 244 = .ok (.aload_n 0, 1) := by decide +kernel
theorem d_Mo_group_245 : decode b_Mo_group 245 = .ok (.getfield 67, 3) := by decide +kernel
theorem d_Mo_group_248 : decode b_Mo_group 248 = .ok (.iload_n 3, 1) := by decide +kernel
theorem d_Mo_group_249 : decode b_Mo_group 249 = .ok (.iload 4, 2) := by decide +kernel
theorem d_Mo_group_251 : decode b_Mo_group 251 = .ok (.iastore, 1) := by decide +kernel
theorem d_Mo_group_252 : decode b_Mo_group 252 = .ok (.iinc 3 1, 3) := by decide +kernel
theorem d_Mo_group_255 : decode b_Mo_group 255 = .ok (.goto (-246), 3) := by decide +kernel
theorem d_Mo_group_258 : decode b_Mo_group 258 = .ok (.iconst 0, 1) := by decide +kernel
theorem d_Mo_group_259 : decode b_Mo_group 259 = .ok (.istore_n 3, 1) := by decide +kernel
theorem d_Mo_group_260 : decode b_Mo_group 260 = .ok (.iload_n 3, 1) := by decide +kernel
theorem d_Mo_group_261 : decode b_Mo_group 261 = .ok (.aload_n 0, 1) := by decide +kernel
theorem d_Mo_group_262 : decode b_Mo_group 262 = .ok (.getfield 50, 3) := by decide +kernel
theorem d_Mo_group_265 : decode b_Mo_group 265 = .ok (.iload_n 1, 1) := by decide +kernel
theorem d_Mo_group_266 : decode b_Mo_group 266 = .ok (.iaload, 1) := by decide +kernel
theorem d_Mo_group_267 : decode b_Mo_group 267 = .ok (.aload_n 0, 1) := by decide +kernel
theorem d_Mo_group_268 : decode b_Mo_group 268 = .ok (.getfield 234, 3) := by decide +kernel
theorem d_Mo_group_271 : decode b_Mo_group 271 = .ok (.imul, 1) := by decide +kernel
theorem d_Mo_group_272 : decode b_Mo_group 272 = .ok (.if_icmp .ge 37, 3) := by decide +kernel
theorem d_Mo_group_275 : decode b_Mo_group 275 = .ok (.aload_n 0, 1) := by decide +kernel
theorem d_Mo_group_276 : decode b_Mo_group 276 = .ok (.getfield 60, 3) := by decide +kernel
theorem d_Mo_group_279 : decode b_Mo_group 279 = .ok (.aload_n 0, 1) := by decide +kernel
theorem d_Mo_group_280 : decode b_Mo_group 280 = .ok (.getfield 64, 3) := by decide +kernel
theorem d_Mo_group_283 : decode b_Mo_group 283 = .ok (.iload_n 1, 1) := by decide +kernel
theorem d_Mo_group_284 : decode b_Mo_group 284 = .ok (.iaload, 1) := by decide +kernel
theorem d_Mo_group_285 : decode b_Mo_group 285 = .ok (.iload_n 3, 1) := by decide +kernel
theorem d_Mo_group_286 : decode b_Mo_group 286 = .ok (.iadd, 1) := by decide +kernel
theorem d_Mo_group_287 : decode b_Mo_group 287 = .ok (.iconst 0, 1) := by decide +kernel
theorem d_Mo_group_288 : decode b_Mo_group 288 = .ok (.bastore, 1) := by decide +kernel
theorem d_Mo_group_289 : decode b_Mo_group 289 = .ok (.aload_n 0, 1) := by decide +kernel
theorem d_Mo_group_290 : decode b_Mo_group 290 = .ok (.getfield 57, 3) := by decide +kernel
theorem d_Mo_group_293 : decode b_Mo_group 293 = .ok (.aload_n 0, 1) := by decide +kernel
theorem d_Mo_group_294 : decode b_Mo_group 294 = .ok (.getfield 64, 3) := by decide +kernel
theorem d_Mo_group_297 : decode b_Mo_group 297 = .ok (.iload_n 1, 1) := by decide +kernel
theorem d_Mo_group_298 : decode b_Mo_group 298 = .ok (.iaload, 1) := by decide +kernel
theorem d_Mo_group_299 : decode b_Mo_group 299 = .ok (.iload_n 3, 1) := by decide +kernel
theorem d_Mo_group_300 : decode b_Mo_group 300 = .ok (.iadd, 1) := by decide +kernel
theorem d_Mo_group_301 : decode b_Mo_group 301 = .ok (.lconst 0, 1) := by decide +kernel
theorem d_Mo_group_302 : decode b_Mo_group 302 = .ok (.lastore, 1) := by decide +kernel
theorem d_Mo_group_303 : decode b_Mo_group 303 = .ok (.iinc 3 1, 3) := by decide +kernel
theorem d_Mo_group_306 : decode b_Mo_group 306 = .ok (.goto (-46), 3) := by decide +kernel
theorem d_Mo_group_309 : decode b_Mo_group 309 = .ok (.return_, 1) := by decide +kernel
theorem d_Mo_gather_0 : decode b_Mo_gather 0 = .ok (.aload_n 0, 1) := by decide +kernel
theorem d_Mo_gather_1 : decode b_Mo_gather 1 = .ok (.iload_n 1, 1) := by decide +kernel
theorem d_Mo_gather_2 : decode b_Mo_gather 2 = .ok (.iload 4, 2) := by decide +kernel
theorem d_Mo_gather_4 : decode b_Mo_gather 4 = .ok (.iload 5, 2) := by decide +kernel
theorem d_Mo_gather_6 : decode b_Mo_gather 6 = .ok (.invokevirtual 250, 3) := by decide +kernel
theorem d_Mo_gather_9 : decode b_Mo_gather 9 = .ok (.istore 6, 2) := by decide +kernel
theorem d_Mo_gather_11 : decode b_Mo_gather 11 = .ok (.iload 4, 2) := by decide +kernel
theorem d_Mo_gather_13 : decode b_Mo_gather 13 = .ok (.bipush 64, 2) := by decide +kernel
theorem d_Mo_gather_15 : decode b_Mo_gather 15 = .ok (.imul, 1) := by decide +kernel
theorem d_Mo_gather_16 : decode b_Mo_gather 16 = .ok (.iload 5, 2) := by decide +kernel
theorem d_Mo_gather_18 : decode b_Mo_gather 18 = .ok (.iadd, 1) := by decide +kernel
theorem d_Mo_gather_19 : decode b_Mo_gather 19 = .ok (.istore 7, 2) := by decide +kernel
theorem d_Mo_gather_21 : decode b_Mo_gather 21 = .ok (.aload_n 0, 1) := by decide +kernel
theorem d_Mo_gather_22 : decode b_Mo_gather 22 = .ok (.getfield 26, 3) := by decide +kernel
theorem d_Mo_gather_25 : decode b_Mo_gather 25 = .ok (.iload_n 3, 1) := by decide +kernel
theorem d_Mo_gather_26 : decode b_Mo_gather 26 = .ok (.iaload, 1) := by decide +kernel
theorem d_Mo_gather_27 : decode b_Mo_gather 27 = .ok (.istore 8, 2) := by decide +kernel
theorem d_Mo_gather_29 : decode b_Mo_gather 29 = .ok (.aload_n 0, 1) := by decide +kernel
theorem d_Mo_gather_30 : decode b_Mo_gather 30 = .ok (.getfield 32, 3) := by decide +kernel
theorem d_Mo_gather_33 : decode b_Mo_gather 33 = .ok (.iload_n 3, 1) := by decide +kernel
theorem d_Mo_gather_34 : decode b_Mo_gather 34 = .ok (.laload, 1) := by decide +kernel
theorem d_Mo_gather_35 : decode b_Mo_gather 35 = .ok (.lstore 9, 2) := by decide +kernel
theorem d_Mo_gather_37 : decode b_Mo_gather 37 = .ok (.aload_n 0, 1) := by decide +kernel
theorem d_Mo_gather_38 : decode b_Mo_gather 38 = .ok (.getfield 29, 3) := by decide +kernel
theorem d_Mo_gather_41 : decode b_Mo_gather 41 = .ok (.iload_n 3, 1) := by decide +kernel
theorem d_Mo_gather_42 : decode b_Mo_gather 42 = .ok (.laload, 1) := by decide +kernel
theorem d_Mo_gather_43 : decode b_Mo_gather 43 = .ok (.lstore 11, 2) := by decide +kernel
theorem d_Mo_gather_45 : decode b_Mo_gather 45 = .ok (.aload_n 0, 1) := by decide +kernel
theorem d_Mo_gather_46 : decode b_Mo_gather 46 = .ok (.getfield 60, 3) := by decide +kernel
theorem d_Mo_gather_49 : decode b_Mo_gather 49 = .ok (.iload 6, 2) := by decide +kernel
theorem d_Mo_gather_51 : decode b_Mo_gather 51 = .ok (.baload, 1) := by decide +kernel
theorem d_Mo_gather_52 : decode b_Mo_gather 52 = .ok (.istore 13, 2) := by decide +kernel
theorem d_Mo_gather_54 : decode b_Mo_gather 54 = .ok (.iload 13, 2) := by decide +kernel
theorem d_Mo_gather_56 : decode b_Mo_gather 56 = .ok (.ifCond .eq 41, 3) := by decide +kernel
theorem d_Mo_gather_59 : decode b_Mo_gather 59 = .ok (.lload 11, 2) := by decide +kernel
theorem d_Mo_gather_61 : decode b_Mo_gather 61 = .ok (.aload_n 0, 1) := by decide +kernel
theorem d_Mo_gather_62 : decode b_Mo_gather 62 = .ok (.getfield 70, 3) := by decide +kernel
theorem d_Mo_gather_65 : decode b_Mo_gather 65 = .ok (.iload 7, 2) := by decide +kernel
theorem d_Mo_gather_67 : decode b_Mo_gather 67 = .ok (.laload, 1) := by decide +kernel
theorem d_Mo_gather_68 : decode b_Mo_gather 68 = .ok (.lcmp, 1) := by decide +kernel
theorem d_Mo_gather_69 : decode b_Mo_gather 69 = .ok (.ifCond .lt 28, 3) := by decide +kernel
theorem d_Mo_gather_72 : decode b_Mo_gather 72 = .ok (.lload 11, 2) := by decide +kernel
theorem d_Mo_gather_74 : decode b_Mo_gather 74 = .ok (.aload_n 0, 1) := by decide +kernel
theorem d_Mo_gather_75 : decode b_Mo_gather 75 = .ok (.getfield 70, 3) := by decide +kernel
theorem d_Mo_gather_78 : decode b_Mo_gather 78 = .ok (.iload 7, 2) := by decide +kernel
theorem d_Mo_gather_80 : decode b_Mo_gather 80 = .ok (.laload, 1) := by decide +kernel
theorem d_Mo_gather_81 : decode b_Mo_gather 81 = .ok (.lcmp, 1) := by decide +kernel
theorem d_Mo_gather_82 : decode b_Mo_gather 82 = .ok (.ifCond .ne 19, 3) := by decide +kernel
theorem d_Mo_gather_85 : decode b_Mo_gather 85 = .ok (.iload 8, 2) := by decide +kernel
theorem d_Mo_gather_87 : decode b_Mo_gather 87 = .ok (.aload_n 0, 1) := by decide +kernel
theorem d_Mo_gather_88 : decode b_Mo_gather 88 = .ok (.getfield 73, 3) := by decide +kernel
theorem d_Mo_gather_91 : decode b_Mo_gather 91 = .ok (.iload 7, 2) := by decide +kernel
theorem d_Mo_gather_93 : decode b_Mo_gather 93 = .ok (.iaload, 1) := by decide +kernel
theorem d_Mo_gather_94 : decode b_Mo_gather 94 = .ok (.if_icmp .ge 7, 3) := by decide +kernel
theorem d_Mo_gather_97 : decode b_Mo_gather 97 = .ok (.iconst 1, 1) := by decide +kernel
theorem d_Mo_gather_98 : decode b_Mo_gather 98 = .ok (.goto 4, 3) := by decide +kernel
theorem d_Mo_gather_101 : decode b_Mo_gather 101 = .ok (.iconst 0, 1) := by decide +kernel
theorem d_Mo_gather_102 : decode b_Mo_gather 102 = .ok (.istore 14, 2) := by decide +kernel
theorem d_Mo_gather_104 : decode b_Mo_gather 104 = .ok (.iload 13, 2) := by decide +kernel
theorem d_Mo_gather_106 : decode b_Mo_gather 106 = .ok (.ifCond .eq 41, 3) := by decide +kernel
theorem d_Mo_gather_109 : decode b_Mo_gather 109 = .ok (.lload 11, 2) := by decide +kernel
theorem d_Mo_gather_111 : decode b_Mo_gather 111 = .ok (.aload_n 0, 1) := by decide +kernel
theorem d_Mo_gather_112 : decode b_Mo_gather 112 = .ok (.getfield 70, 3) := by decide +kernel
theorem d_Mo_gather_115 : decode b_Mo_gather 115 = .ok (.iload 7, 2) := by decide +kernel
theorem d_Mo_gather_117 : decode b_Mo_gather 117 = .ok (.laload, 1) := by decide +kernel
theorem d_Mo_gather_118 : decode b_Mo_gather 118 = .ok (.lcmp, 1) := by decide +kernel
theorem d_Mo_gather_119 : decode b_Mo_gather 119 = .ok (.ifCond .gt 28, 3) := by decide +kernel
theorem d_Mo_gather_122 : decode b_Mo_gather 122 = .ok (.lload 11, 2) := by decide +kernel
theorem d_Mo_gather_124 : decode b_Mo_gather 124 = .ok (.aload_n 0, 1) := by decide +kernel
theorem d_Mo_gather_125 : decode b_Mo_gather 125 = .ok (.getfield 70, 3) := by decide +kernel
theorem d_Mo_gather_128 : decode b_Mo_gather 128 = .ok (.iload 7, 2) := by decide +kernel
theorem d_Mo_gather_130 : decode b_Mo_gather 130 = .ok (.laload, 1) := by decide +kernel
theorem d_Mo_gather_131 : decode b_Mo_gather 131 = .ok (.lcmp, 1) := by decide +kernel
theorem d_Mo_gather_132 : decode b_Mo_gather 132 = .ok (.ifCond .ne 19, 3) := by decide +kernel
theorem d_Mo_gather_135 : decode b_Mo_gather 135 = .ok (.iload 8, 2) := by decide +kernel
theorem d_Mo_gather_137 : decode b_Mo_gather 137 = .ok (.aload_n 0, 1) := by decide +kernel
theorem d_Mo_gather_138 : decode b_Mo_gather 138 = .ok (.getfield 73, 3) := by decide +kernel
theorem d_Mo_gather_141 : decode b_Mo_gather 141 = .ok (.iload 7, 2) := by decide +kernel
theorem d_Mo_gather_143 : decode b_Mo_gather 143 = .ok (.iaload, 1) := by decide +kernel
theorem d_Mo_gather_144 : decode b_Mo_gather 144 = .ok (.if_icmp .ge 7, 3) := by decide +kernel
theorem d_Mo_gather_147 : decode b_Mo_gather 147 = .ok (.iconst 1, 1) := by decide +kernel
theorem d_Mo_gather_148 : decode b_Mo_gather 148 = .ok (.goto 4, 3) := by decide +kernel
theorem d_Mo_gather_151 : decode b_Mo_gather 151 = .ok (.iconst 0, 1) := by decide +kernel
theorem d_Mo_gather_152 : decode b_Mo_gather 152 = .ok (.istore 15, 2) := by decide +kernel
theorem d_Mo_gather_154 : decode b_Mo_gather 154 = .ok (.iload_n 2, 1) := by decide +kernel
theorem d_Mo_gather_155 : decode b_Mo_gather 155 = .ok (.iconst 4, 1) := by decide +kernel
theorem d_Mo_gather_156 : decode b_Mo_gather 156 = .ok (.if_icmp .ne 8, 3) := by decide +kernel
theorem d_Mo_gather_159 : decode b_Mo_gather 159 = .ok (.iload 14, 2) := by decide +kernel
theorem d_Mo_gather_161 : decode b_Mo_gather 161 = .ok (.goto 5, 3) := by decide +kernel
theorem d_Mo_gather_164 : decode b_Mo_gather 164 = .ok (.iload 15, 2) := by decide +kernel
theorem d_Mo_gather_166 : decode b_Mo_gather 166 = .ok (.istore 16, 2) := by decide +kernel
theorem d_Mo_gather_168 : decode b_Mo_gather 168 = .ok (.iload_n 2, 1) := by decide +kernel
theorem d_Mo_gather_169 : decode b_Mo_gather 169 = .ok (.ifCond .eq 8, 3) := by decide +kernel
theorem d_Mo_gather_172 : decode b_Mo_gather 172 = .ok (.iload_n 2, 1) := by decide +kernel
theorem d_Mo_gather_173 : decode b_Mo_gather 173 = .ok (.iconst 1, 1) := by decide +kernel
theorem d_Mo_gather_174 : decode b_Mo_gather 174 = .ok (.if_icmp .ne 26, 3) := by decide +kernel
theorem d_Mo_gather_177 : decode b_Mo_gather 177 = .ok (.aload_n 0, 1) := by decide +kernel
theorem d_Mo_gather_178 : decode b_Mo_gather 178 = .ok (.getfield 57, 3) := by decide +kernel
theorem d_Mo_gather_181 : decode b_Mo_gather 181 = .ok (.iload 6, 2) := by decide +kernel
theorem d_Mo_gather_183 : decode b_Mo_gather 183 = .ok (.dup2, 1) := by decide +kernel
theorem d_Mo_gather_184 : decode b_Mo_gather 184 = .ok (.laload, 1) := by decide +kernel
theorem d_Mo_gather_185 : decode b_Mo_gather 185 = .ok (.iload_n 2, 1) := by decide +kernel
theorem d_Mo_gather_186 : decode b_Mo_gather 186 = .ok (.ifCond .ne 8, 3) := by decide +kernel
theorem d_Mo_gather_189 : decode b_Mo_gather 189 = .ok (.lload 9, 2) := by decide +kernel
theorem d_Mo_gather_191 : decode b_Mo_gather 191 = .ok (.goto 4, 3) := by decide +kernel
theorem d_Mo_gather_194 : decode b_Mo_gather 194 = .ok (.lconst 1, 1) := by decide +kernel
theorem d_Mo_gather_195 : decode b_Mo_gather 195 = .ok (.ladd, 1) := by decide +kernel
theorem d_Mo_gather_196 : decode b_Mo_gather 196 = .ok (.lastore, 1) := by decide +kernel
theorem d_Mo_gather_197 : decode b_Mo_gather 197 = .ok (.goto 164, 3) := by decide +kernel
theorem d_Mo_gather_200 : decode b_Mo_gather 200 = .ok (.iload_n 2, 1) := by decide +kernel
theorem d_Mo_gather_201 : decode b_Mo_gather 201 = .ok (.iconst 2, 1) := by decide +kernel
theorem d_Mo_gather_202 : decode b_Mo_gather 202 = .ok (.if_icmp .eq 8, 3) := by decide +kernel
theorem d_Mo_gather_205 : decode b_Mo_gather 205 = .ok (.iload_n 2, 1) := by decide +kernel
theorem d_Mo_gather_206 : decode b_Mo_gather 206 = .ok (.iconst 3, 1) := by decide +kernel
theorem d_Mo_gather_207 : decode b_Mo_gather 207 = .ok (.if_icmp .ne 64, 3) := by decide +kernel
theorem d_Mo_gather_210 : decode b_Mo_gather 210 = .ok (.aload_n 0, 1) := by decide +kernel
theorem d_Mo_gather_211 : decode b_Mo_gather 211 = .ok (.getfield 57, 3) := by decide +kernel
theorem d_Mo_gather_214 : decode b_Mo_gather 214 = .ok (.iload 6, 2) := by decide +kernel
theorem d_Mo_gather_216 : decode b_Mo_gather 216 = .ok (.iload 13, 2) := by decide +kernel
theorem d_Mo_gather_218 : decode b_Mo_gather 218 = .ok (.ifCond .eq 37, 3) := by decide +kernel
theorem d_Mo_gather_221 : decode b_Mo_gather 221 = .ok (.iload_n 2, 1) := by decide +kernel
theorem d_Mo_gather_222 : decode b_Mo_gather 222 = .ok (.iconst 2, 1) := by decide +kernel
theorem d_Mo_gather_223 : decode b_Mo_gather 223 = .ok (.if_icmp .ne 19, 3) := by decide +kernel
theorem d_Mo_gather_226 : decode b_Mo_gather 226 = .ok (.lload 9, 2) := by decide +kernel
theorem d_Mo_gather_228 : decode b_Mo_gather 228 = .ok (.aload_n 0, 1) := by decide +kernel
theorem d_Mo_gather_229 : decode b_Mo_gather 229 = .ok (.getfield 57, 3) := by decide +kernel
theorem d_Mo_gather_232 : decode b_Mo_gather 232 = .ok (.iload 6, 2) := by decide +kernel
theorem d_Mo_gather_234 : decode b_Mo_gather 234 = .ok (.laload, 1) := by decide +kernel
theorem d_Mo_gather_235 : decode b_Mo_gather 235 = .ok (.lcmp, 1) := by decide +kernel
theorem d_Mo_gather_236 : decode b_Mo_gather 236 = .ok (.ifCond .ge 24, 3) := by decide +kernel
theorem d_Mo_gather_239 : decode b_Mo_gather 239 = .ok (.goto 16, 3) := by decide +kernel
theorem d_Mo_gather_242 : decode b_Mo_gather 242 = .ok (.lload 9, 2) := by decide +kernel
theorem d_Mo_gather_244 : decode b_Mo_gather 244 = .ok (.aload_n 0, 1) := by decide +kernel
theorem d_Mo_gather_245 : decode b_Mo_gather 245 = .ok (.getfield 57, 3) := by decide +kernel
theorem d_Mo_gather_248 : decode b_Mo_gather 248 = .ok (.iload 6, 2) := by decide +kernel
theorem d_Mo_gather_250 : decode b_Mo_gather 250 = .ok (.laload, 1) := by decide +kernel
theorem d_Mo_gather_251 : decode b_Mo_gather 251 = .ok (.lcmp, 1) := by decide +kernel
theorem d_Mo_gather_252 : decode b_Mo_gather 252 = .ok (.ifCond .le 8, 3) := by decide +kernel
theorem d_Mo_gather_255 : decode b_Mo_gather 255 = .ok (.lload 9, 2) := by decide +kernel
theorem d_Mo_gather_257 : decode b_Mo_gather 257 = .ok (.goto 10, 3) := by decide +kernel
theorem d_Mo_gather_260 : decode b_Mo_gather 260 = .ok (.aload_n 0, 1) := by decide +kernel
theorem d_Mo_gather_261 : decode b_Mo_gather 261 = .ok (.getfield 57, 3) := by decide +kernel
theorem d_Mo_gather_264 : decode b_Mo_gather 264 = .ok (.iload 6, 2) := by decide +kernel
theorem d_Mo_gather_266 : decode b_Mo_gather 266 = .ok (.laload, 1) := by decide +kernel
theorem d_Mo_gather_267 : decode b_Mo_gather 267 = .ok (.lastore, 1) := by decide +kernel
theorem d_Mo_gather_268 : decode b_Mo_gather 268 = .ok (.goto 93, 3) := by decide +kernel
theorem d_Mo_gather_271 : decode b_Mo_gather 271 = .ok (.iload_n 2, 1) := by decide +kernel
theorem d_Mo_gather_272 : decode b_Mo_gather 272 = .ok (.bipush 6, 2) := by decide +kernel
theorem d_Mo_gather_274 : decode b_Mo_gather 274 = .ok (.if_icmp .ne 55, 3) := by decide +kernel
theorem d_Mo_gather_277 : decode b_Mo_gather 277 = .ok (.aload_n 0, 1) := by decide +kernel
theorem d_Mo_gather_278 : decode b_Mo_gather 278 = .ok (.getfield 79, 3) := by decide +kernel
theorem d_Mo_gather_281 : decode b_Mo_gather 281 = .ok (.iload 8, 2) := by decide +kernel
theorem d_Mo_gather_283 : decode b_Mo_gather 283 = .ok (.baload, 1) := by decide +kernel
theorem d_Mo_gather_284 : decode b_Mo_gather 284 = .ok (.ifCond .ne 4, 3) := by decide +kernel
theorem d_Mo_gather_287 : decode b_Mo_gather 287 = .ok (.return_, 1) := by decide +kernel
theorem d_Mo_gather_288 : decode b_Mo_gather 288 = .ok (.aload_n 0, 1) := by decide +kernel
theorem d_Mo_gather_289 : decode b_Mo_gather 289 = .ok (.getfield 57, 3) := by decide +kernel
theorem d_Mo_gather_292 : decode b_Mo_gather 292 = .ok (.iload 6, 2) := by decide +kernel
theorem d_Mo_gather_294 : decode b_Mo_gather 294 = .ok (.dup2, 1) := by decide +kernel
theorem d_Mo_gather_295 : decode b_Mo_gather 295 = .ok (.laload, 1) := by decide +kernel
theorem d_Mo_gather_296 : decode b_Mo_gather 296 = .ok (.aload_n 0, 1) := by decide +kernel
theorem d_Mo_gather_297 : decode b_Mo_gather 297 = .ok (.getfield 76, 3) := by decide +kernel
theorem d_Mo_gather_300 : decode b_Mo_gather 300 = .ok (.iload 8, 2) := by decide +kernel
theorem d_Mo_gather_302 : decode b_Mo_gather 302 = .ok (.laload, 1) := by decide +kernel
theorem d_Mo_gather_303 : decode b_Mo_gather 303 = .ok (.lload 9, 2) := by decide +kernel
theorem d_Mo_gather_305 : decode b_Mo_gather 305 = .ok (.lcmp, 1) := by decide +kernel
theorem d_Mo_gather_306 : decode b_Mo_gather 306 = .ok (.ifCond .le 8, 3) := by decide +kernel
theorem d_Mo_gather_309 : decode b_Mo_gather 309 = .ok (.lload 9, 2) := by decide +kernel
theorem d_Mo_gather_311 : decode b_Mo_gather 311 = .ok (.goto 13, 3) := by decide +kernel
theorem d_Mo_gather_314 : decode b_Mo_gather 314 = .ok (.lload 9, 2) := by decide +kernel
theorem d_Mo_gather_316 : decode b_Mo_gather 316 = .ok (.aload_n 0, 1) := by decide +kernel
theorem d_Mo_gather_317 : decode b_Mo_gather 317 = .ok (.getfield 76, 3) := by decide +kernel
theorem d_Mo_gather_320 : decode b_Mo_gather 320 = .ok (.iload 8, 2) := by decide +kernel
theorem d_Mo_gather_322 : decode b_Mo_gather 322 = .ok (.laload, 1) := by decide +kernel
theorem d_Mo_gather_323 : decode b_Mo_gather 323 = .ok (.lsub, 1) := by decide +kernel
theorem d_Mo_gather_324 : decode b_Mo_gather 324 = .ok (.ladd, 1) := by decide +kernel
theorem d_Mo_gather_325 : decode b_Mo_gather 325 = .ok (.lastore, 1) := by decide +kernel
theorem d_Mo_gather_326 : decode b_Mo_gather 326 = .ok (.goto 35, 3) := by decide +kernel
theorem d_Mo_gather_329 : decode b_Mo_gather 329 = .ok (.iload 16, 2) := by decide +kernel
theorem d_Mo_gather_331 : decode b_Mo_gather 331 = .ok (.ifCond .eq 30, 3) := by decide +kernel
theorem d_Mo_gather_334 : decode b_Mo_gather 334 = .ok (.aload_n 0, 1) := by decide +kernel
theorem d_Mo_gather_335 : decode b_Mo_gather 335 = .ok (.getfield 57, 3) := by decide +kernel
theorem d_Mo_gather_338 : decode b_Mo_gather 338 = .ok (.iload 6, 2) := by decide +kernel
theorem d_Mo_gather_340 : decode b_Mo_gather 340 = .ok (.lload 9, 2) := by decide +kernel
theorem d_Mo_gather_342 : decode b_Mo_gather 342 = .ok (.lastore, 1) := by decide +kernel
theorem d_Mo_gather_343 : decode b_Mo_gather 343 = .ok (.aload_n 0, 1) := by decide +kernel
theorem d_Mo_gather_344 : decode b_Mo_gather 344 = .ok (.getfield 70, 3) := by decide +kernel
theorem d_Mo_gather_347 : decode b_Mo_gather 347 = .ok (.iload 7, 2) := by decide +kernel
theorem d_Mo_gather_349 : decode b_Mo_gather 349 = .ok (.lload 11, 2) := by decide +kernel
theorem d_Mo_gather_351 : decode b_Mo_gather 351 = .ok (.lastore, 1) := by decide +kernel
theorem d_Mo_gather_352 : decode b_Mo_gather 352 = .ok (.aload_n 0, 1) := by decide +kernel
theorem d_Mo_gather_353 : decode b_Mo_gather 353 = .ok (.getfield 73, 3) := by decide +kernel
theorem d_Mo_gather_356 : decode b_Mo_gather 356 = .ok (.iload 7, 2) := by decide +kernel
theorem d_Mo_gather_358 : decode b_Mo_gather 358 = .ok (.iload 8, 2) := by decide +kernel
theorem d_Mo_gather_360 : decode b_Mo_gather 360 = .ok (.iastore, 1) := by decide +kernel
theorem d_Mo_gather_361 : decode b_Mo_gather 361 = .ok (.aload_n 0, 1) := by decide +kernel
theorem d_Mo_gather_362 : decode b_Mo_gather 362 = .ok (.getfield 60, 3) := by decide +kernel
theorem d_Mo_gather_365 : decode b_Mo_gather 365 = .ok (.iload 6, 2) := by decide +kernel
theorem d_Mo_gather_367 : decode b_Mo_gather 367 = .ok (.iconst 1, 1) := by decide +kernel
theorem d_Mo_gather_368 : decode b_Mo_gather 368 = .ok (.bastore, 1) := by decide +kernel
theorem d_Mo_gather_369 : decode b_Mo_gather 369 = .ok (.return_, 1) := by decide +kernel
theorem d_Mo_reckon_0 : decode b_Mo_reckon 0 = .ok (.aload_n 0, 1) := by decide +kernel
theorem d_Mo_reckon_1 : decode b_Mo_reckon 1 = .ok (.getfield 253, 3) := by decide +kernel
theorem d_Mo_reckon_4 : decode b_Mo_reckon 4 = .ok (.istore_n 3, 1) := by decide +kernel
theorem d_Mo_reckon_5 : decode b_Mo_reckon 5 = .ok (.aload_n 0, 1) := by decide +kernel
theorem d_Mo_reckon_6 : decode b_Mo_reckon 6 = .ok (.iload_n 3, 1) := by decide +kernel
theorem d_Mo_reckon_7 : decode b_Mo_reckon 7 = .ok (.iload_n 2, 1) := by decide +kernel
theorem d_Mo_reckon_8 : decode b_Mo_reckon 8 = .ok (.invokevirtual 256, 3) := by decide +kernel
theorem d_Mo_reckon_11 : decode b_Mo_reckon 11 = .ok (.iconst 0, 1) := by decide +kernel
theorem d_Mo_reckon_12 : decode b_Mo_reckon 12 = .ok (.istore 4, 2) := by decide +kernel
theorem d_Mo_reckon_14 : decode b_Mo_reckon 14 = .ok (.iload 4, 2) := by decide +kernel
theorem d_Mo_reckon_16 : decode b_Mo_reckon 16 = .ok (.aload_n 0, 1) := by decide +kernel
theorem d_Mo_reckon_17 : decode b_Mo_reckon 17 = .ok (.getfield 152, 3) := by decide +kernel
theorem d_Mo_reckon_20 : decode b_Mo_reckon 20 = .ok (.if_icmp .ge 122, 3) := by decide +kernel
theorem d_Mo_reckon_23 : decode b_Mo_reckon 23 = .ok (.aload_n 0, 1) := by decide +kernel
theorem d_Mo_reckon_24 : decode b_Mo_reckon 24 = .ok (.getfield 26, 3) := by decide +kernel
theorem d_Mo_reckon_27 : decode b_Mo_reckon 27 = .ok (.iload 4, 2) := by decide +kernel
theorem d_Mo_reckon_29 : decode b_Mo_reckon 29 = .ok (.iaload, 1) := by decide +kernel
theorem d_Mo_reckon_30 : decode b_Mo_reckon 30 = .ok (.istore 5, 2) := by decide +kernel
theorem d_Mo_reckon_32 : decode b_Mo_reckon 32 = .ok (.aload_n 0, 1) := by decide +kernel
theorem d_Mo_reckon_33 : decode b_Mo_reckon 33 = .ok (.iload 4, 2) := by decide +kernel
theorem d_Mo_reckon_35 : decode b_Mo_reckon 35 = .ok (.invokevirtual 260, 3) := by decide +kernel
theorem d_Mo_reckon_38 : decode b_Mo_reckon 38 = .ok (.ifCond .ne 6, 3) := by decide +kernel
theorem d_Mo_reckon_41 : decode b_Mo_reckon 41 = .ok (.goto 95, 3) := by decide +kernel
theorem d_Mo_reckon_44 : decode b_Mo_reckon 44 = .ok (.aload_n 0, 1) := by decide +kernel
theorem d_Mo_reckon_45 : decode b_Mo_reckon 45 = .ok (.getfield 29, 3) := by decide +kernel
theorem d_Mo_reckon_48 : decode b_Mo_reckon 48 = .ok (.iload 4, 2) := by decide +kernel
theorem d_Mo_reckon_50 : decode b_Mo_reckon 50 = .ok (.laload, 1) := by decide +kernel
theorem d_Mo_reckon_51 : decode b_Mo_reckon 51 = .ok (.aload_n 0, 1) := by decide +kernel
theorem d_Mo_reckon_52 : decode b_Mo_reckon 52 = .ok (.getfield 263, 3) := by decide +kernel
theorem d_Mo_reckon_55 : decode b_Mo_reckon 55 = .ok (.lsub, 1) := by decide +kernel
theorem d_Mo_reckon_56 : decode b_Mo_reckon 56 = .ok (.lstore 6, 2) := by decide +kernel
theorem d_Mo_reckon_58 : decode b_Mo_reckon 58 = .ok (.aload_n 0, 1) := by decide +kernel
theorem d_Mo_reckon_59 : decode b_Mo_reckon 59 = .ok (.getfield 67, 3) := by decide +kernel
theorem d_Mo_reckon_62 : decode b_Mo_reckon 62 = .ok (.iload 5, 2) := by decide +kernel
theorem d_Mo_reckon_64 : decode b_Mo_reckon 64 = .ok (.iaload, 1) := by decide +kernel
theorem d_Mo_reckon_65 : decode b_Mo_reckon 65 = .ok (.ifCond .lt 49, 3) := by decide +kernel
theorem d_Mo_reckon_68 : decode b_Mo_reckon 68 = .ok (.lload 6, 2) := by decide +kernel
theorem d_Mo_reckon_70 : decode b_Mo_reckon 70 = .ok (.lconst 0, 1) := by decide +kernel
theorem d_Mo_reckon_71 : decode b_Mo_reckon 71 = .ok (.lcmp, 1) := by decide +kernel
theorem d_Mo_reckon_72 : decode b_Mo_reckon 72 = .ok (.ifCond .lt 42, 3) := by decide +kernel
theorem d_Mo_reckon_75 : decode b_Mo_reckon 75 = .ok (.lload 6, 2) := by decide +kernel
theorem d_Mo_reckon_77 : decode b_Mo_reckon 77 = .ok (.aload_n 0, 1) := by decide +kernel
theorem d_Mo_reckon_78 : decode b_Mo_reckon 78 = .ok (.getfield 266, 3) := by decide +kernel
theorem d_Mo_reckon_81 : decode b_Mo_reckon 81 = .ok (.ldiv, 1) := by decide +kernel
theorem d_Mo_reckon_82 : decode b_Mo_reckon 82 = .ok (.aload_n 0, 1) := by decide +kernel
theorem d_Mo_reckon_83 : decode b_Mo_reckon 83 = .ok (.getfield 234, 3) := by decide +kernel
theorem d_Mo_reckon_86 : decode b_Mo_reckon 86 = .ok (.i2l, 1) := by decide +kernel
theorem d_Mo_reckon_87 : decode b_Mo_reckon 87 = .ok (.lcmp, 1) := by decide +kernel
theorem d_Mo_reckon_88 : decode b_Mo_reckon 88 = .ok (.ifCond .ge 26, 3) := by decide +kernel
theorem d_Mo_reckon_91 : decode b_Mo_reckon 91 = .ok (.aload_n 0, 1) := by decide +kernel
theorem d_Mo_reckon_92 : decode b_Mo_reckon 92 = .ok (.iload_n 3, 1) := by decide +kernel
theorem d_Mo_reckon_93 : decode b_Mo_reckon 93 = .ok (.iload_n 1, 1) := by decide +kernel
theorem d_Mo_reckon_94 : decode b_Mo_reckon 94 = .ok (.iload 4, 2) := by decide +kernel
theorem d_Mo_reckon_96 : decode b_Mo_reckon 96 = .ok (.aload_n 0, 1) := by decide +kernel
theorem d_Mo_reckon_97 : decode b_Mo_reckon 97 = .ok (.getfield 67, 3) := by decide +kernel
theorem d_Mo_reckon_100 : decode b_Mo_reckon 100 = .ok (.iload 5, 2) := by decide +kernel
theorem d_Mo_reckon_102 : decode b_Mo_reckon 102 = .ok (.iaload, 1) := by decide +kernel
theorem d_Mo_reckon_103 : decode b_Mo_reckon 103 = .ok (.lload 6, 2) := by decide +kernel
theorem d_Mo_reckon_105 : decode b_Mo_reckon 105 = .ok (.aload_n 0, 1) := by decide +kernel
theorem d_Mo_reckon_106 : decode b_Mo_reckon 106 = .ok (.getfield 266, 3) := by decide +kernel
theorem d_Mo_reckon_109 : decode b_Mo_reckon 109 = .ok (.ldiv, 1) := by decide +kernel
theorem d_Mo_reckon_110 : decode b_Mo_reckon 110 = .ok (.l2i, 1) := by decide +kernel
theorem d_Mo_reckon_111 : decode b_Mo_reckon 111 = .ok (.invokevirtual 269, 3) := by decide +kernel
theorem d_Mo_reckon_114 : decode b_Mo_reckon 114 = .ok (.aload_n 0, 1) := by decide +kernel
theorem d_Mo_reckon_115 : decode b_Mo_reckon 115 = .ok (.getfield 76, 3) := by decide +kernel
theorem d_Mo_reckon_118 : decode b_Mo_reckon 118 = .ok (.iload 5, 2) := by decide +kernel
theorem d_Mo_reckon_120 : decode b_Mo_reckon 120 = .ok (.aload_n 0, 1) := by decide +kernel
theorem d_Mo_reckon_121 : decode b_Mo_reckon 121 = .ok (.getfield 32, 3) := by decide +kernel
theorem d_Mo_reckon_124 : decode b_Mo_reckon 124 = .ok (.iload 4, 2) := by decide +kernel
theorem d_Mo_reckon_126 : decode b_Mo_reckon 126 = .ok (.laload, 1) := by decide +kernel
theorem d_Mo_reckon_127 : decode b_Mo_reckon 127 = .ok (.lastore, 1) := by decide +kernel
theorem d_Mo_reckon_128 : decode b_Mo_reckon 128 = .ok (.aload_n 0, 1) := by decide +kernel
theorem d_Mo_reckon_129 : decode b_Mo_reckon 129 = .ok (.getfield 79, 3) := by decide +kernel
theorem d_Mo_reckon_132 : decode b_Mo_reckon 132 = .ok (.iload 5, 2) := by decide +kernel
theorem d_Mo_reckon_134 : decode b_Mo_reckon 134 = .ok (.iconst 1, 1) := by decide +kernel
theorem d_Mo_reckon_135 : decode b_Mo_reckon 135 = .ok (.bastore, 1) := by decide +kernel
theorem d_Mo_reckon_136 : decode b_Mo_reckon 136 = .ok (.iinc 4 1, 3) := by decide +kernel
theorem d_Mo_reckon_139 : decode b_Mo_reckon 139 = .ok (.goto (-125), 3) := by decide +kernel
theorem d_Mo_reckon_142 : decode b_Mo_reckon 142 = .ok (.aload_n 0, 1) := by decide +kernel
theorem d_Mo_reckon_143 : decode b_Mo_reckon 143 = .ok (.dup, 1) := by decide +kernel
theorem d_Mo_reckon_144 : decode b_Mo_reckon 144 = .ok (.getfield 253, 3) := by decide +kernel
theorem d_Mo_reckon_147 : decode b_Mo_reckon 147 = .ok (.iconst 1, 1) := by decide +kernel
theorem d_Mo_reckon_148 : decode b_Mo_reckon 148 = .ok (.iadd, 1) := by decide +kernel
theorem d_Mo_reckon_149 : decode b_Mo_reckon 149 = .ok (.putfield 253, 3) := by decide +kernel
theorem d_Mo_reckon_152 : decode b_Mo_reckon 152 = .ok (.aload_n 0, 1) := by decide +kernel
theorem d_Mo_reckon_153 : decode b_Mo_reckon 153 = .ok (.iload_n 3, 1) := by decide +kernel
theorem d_Mo_reckon_154 : decode b_Mo_reckon 154 = .ok (.invokevirtual 273, 3) := by decide +kernel
theorem d_Mo_reckon_157 : decode b_Mo_reckon 157 = .ok (.return_, 1) := by decide +kernel
theorem d_Mo_sweep_0 : decode b_Mo_sweep 0 = .ok (.iconst 0, 1) := by decide +kernel
theorem d_Mo_sweep_1 : decode b_Mo_sweep 1 = .ok (.istore_n 2, 1) := by decide +kernel
theorem d_Mo_sweep_2 : decode b_Mo_sweep 2 = .ok (.iconst 0, 1) := by decide +kernel
theorem d_Mo_sweep_3 : decode b_Mo_sweep 3 = .ok (.istore_n 3, 1) := by decide +kernel
theorem d_Mo_sweep_4 : decode b_Mo_sweep 4 = .ok (.iload_n 3, 1) := by decide +kernel
theorem d_Mo_sweep_5 : decode b_Mo_sweep 5 = .ok (.aload_n 0, 1) := by decide +kernel
theorem d_Mo_sweep_6 : decode b_Mo_sweep 6 = .ok (.getfield 50, 3) := by decide +kernel
theorem d_Mo_sweep_9 : decode b_Mo_sweep 9 = .ok (.iload_n 1, 1) := by decide +kernel
theorem d_Mo_sweep_10 : decode b_Mo_sweep 10 = .ok (.iaload, 1) := by decide +kernel
theorem d_Mo_sweep_11 : decode b_Mo_sweep 11 = .ok (.if_icmp .ge 163, 3) := by decide +kernel
theorem d_Mo_sweep_14 : decode b_Mo_sweep 14 = .ok (.iconst 0, 1) := by decide +kernel
theorem d_Mo_sweep_15 : decode b_Mo_sweep 15 = .ok (.istore 4, 2) := by decide +kernel
theorem d_Mo_sweep_17 : decode b_Mo_sweep 17 = .ok (.iconst 0, 1) := by decide +kernel
theorem d_Mo_sweep_18 : decode b_Mo_sweep 18 = .ok (.istore 5, 2) := by decide +kernel
theorem d_Mo_sweep_20 : decode b_Mo_sweep 20 = .ok (.iload 5, 2) := by decide +kernel
theorem d_Mo_sweep_22 : decode b_Mo_sweep 22 = .ok (.aload_n 0, 1) := by decide +kernel
theorem d_Mo_sweep_23 : decode b_Mo_sweep 23 = .ok (.getfield 234, 3) := by decide +kernel
theorem d_Mo_sweep_26 : decode b_Mo_sweep 26 = .ok (.if_icmp .ge 37, 3) := by decide +kernel
theorem d_Mo_sweep_29 : decode b_Mo_sweep 29 = .ok (.iload 4, 2) := by decide +kernel
theorem d_Mo_sweep_31 : decode b_Mo_sweep 31 = .ok (.ifCond .ne 19, 3) := by decide +kernel
theorem d_Mo_sweep_34 : decode b_Mo_sweep 34 = .ok (.aload_n 0, 1) := by decide +kernel
theorem d_Mo_sweep_35 : decode b_Mo_sweep 35 = .ok (.getfield 60, 3) := by decide +kernel
theorem d_Mo_sweep_38 : decode b_Mo_sweep 38 = .ok (.aload_n 0, 1) := by decide +kernel
theorem d_Mo_sweep_39 : decode b_Mo_sweep 39 = .ok (.iload_n 1, 1) := by decide +kernel
theorem d_Mo_sweep_40 : decode b_Mo_sweep 40 = .ok (.iload_n 3, 1) := by decide +kernel
theorem d_Mo_sweep_41 : decode b_Mo_sweep 41 = .ok (.iload 5, 2) := by decide +kernel
theorem d_Mo_sweep_43 : decode b_Mo_sweep 43 = .ok (.invokevirtual 250, 3) := by decide +kernel
theorem d_Mo_sweep_46 : decode b_Mo_sweep 46 = .ok (.baload, 1) := by decide +kernel
theorem d_Mo_sweep_47 : decode b_Mo_sweep 47 = .ok (.ifCond .eq 7, 3) := by decide +kernel
theorem d_Mo_sweep_50 : decode b_Mo_sweep 50 = .ok (.iconst 1, 1) := by decide +kernel
theorem d_Mo_sweep_51 : decode b_Mo_sweep 51 = .ok (.goto 4, 3) := by decide +kernel
theorem d_Mo_sweep_54 : decode b_Mo_sweep 54 = .ok (.iconst 0, 1) := by decide +kernel
theorem d_Mo_sweep_55 : decode b_Mo_sweep 55 = .ok (.istore 4, 2) := by decide +kernel
theorem d_Mo_sweep_57 : decode b_Mo_sweep 57 = .ok (.iinc 5 1, 3) := by decide +kernel
theorem d_Mo_sweep_60 : decode b_Mo_sweep 60 = .ok (.goto (-40), 3) := by decide +kernel
theorem d_Mo_sweep_63 : decode b_Mo_sweep 63 = .ok (.iload 4, 2) := by decide +kernel
theorem d_Mo_sweep_65 : decode b_Mo_sweep 65 = .ok (.ifCond .ne 6, 3) := by decide +kernel
theorem d_Mo_sweep_68 : decode b_Mo_sweep 68 = .ok (.goto 100, 3) := by decide +kernel
theorem d_Mo_sweep_71 : decode b_Mo_sweep 71 = .ok (.iconst 0, 1) := by decide +kernel
theorem d_Mo_sweep_72 : decode b_Mo_sweep 72 = .ok (.istore 5, 2) := by decide +kernel
theorem d_Mo_sweep_74 : decode b_Mo_sweep 74 = .ok (.iload 5, 2) := by decide +kernel
theorem d_Mo_sweep_76 : decode b_Mo_sweep 76 = .ok (.aload_n 0, 1) := by decide +kernel
theorem d_Mo_sweep_77 : decode b_Mo_sweep 77 = .ok (.getfield 234, 3) := by decide +kernel
theorem d_Mo_sweep_80 : decode b_Mo_sweep 80 = .ok (.if_icmp .ge 61, 3) := by decide +kernel
theorem d_Mo_sweep_83 : decode b_Mo_sweep 83 = .ok (.aload_n 0, 1) := by decide +kernel
theorem d_Mo_sweep_84 : decode b_Mo_sweep 84 = .ok (.getfield 60, 3) := by decide +kernel
theorem d_Mo_sweep_87 : decode b_Mo_sweep 87 = .ok (.aload_n 0, 1) := by decide +kernel
theorem d_Mo_sweep_88 : decode b_Mo_sweep 88 = .ok (.iload_n 1, 1) := by decide +kernel
theorem d_Mo_sweep_89 : decode b_Mo_sweep 89 = .ok (.iload_n 2, 1) := by decide +kernel
theorem d_Mo_sweep_90 : decode b_Mo_sweep 90 = .ok (.iload 5, 2) := by decide +kernel
theorem d_Mo_sweep_92 : decode b_Mo_sweep 92 = .ok (.invokevirtual 250, 3) := by decide +kernel
theorem d_Mo_sweep_95 : decode b_Mo_sweep 95 = .ok (.aload_n 0, 1) := by decide +kernel
theorem d_Mo_sweep_96 : decode b_Mo_sweep 96 = .ok (.getfield 60, 3) := by decide +kernel
theorem d_Mo_sweep_99 : decode b_Mo_sweep 99 = .ok (.aload_n 0, 1) := by decide +kernel
theorem d_Mo_sweep_100 : decode b_Mo_sweep 100 = .ok (.iload_n 1, 1) := by decide +kernel
theorem d_Mo_sweep_101 : decode b_Mo_sweep 101 = .ok (.iload_n 3, 1) := by decide +kernel
theorem d_Mo_sweep_102 : decode b_Mo_sweep 102 = .ok (.iload 5, 2) := by decide +kernel
theorem d_Mo_sweep_104 : decode b_Mo_sweep 104 = .ok (.invokevirtual 250, 3) := by decide +kernel
theorem d_Mo_sweep_107 : decode b_Mo_sweep 107 = .ok (.baload, 1) := by decide +kernel
theorem d_Mo_sweep_108 : decode b_Mo_sweep 108 = .ok (.bastore, 1) := by decide +kernel
theorem d_Mo_sweep_109 : decode b_Mo_sweep 109 = .ok (.aload_n 0, 1) := by decide +kernel
theorem d_Mo_sweep_110 : decode b_Mo_sweep 110 = .ok (.getfield 57, 3) := by decide +kernel
theorem d_Mo_sweep_113 : decode b_Mo_sweep 113 = .ok (.aload_n 0, 1) := by decide +kernel
theorem d_Mo_sweep_114 : decode b_Mo_sweep 114 = .ok (.iload_n 1, 1) := by decide +kernel
theorem d_Mo_sweep_115 : decode b_Mo_sweep 115 = .ok (.iload_n 2, 1) := by decide +kernel
theorem d_Mo_sweep_116 : decode b_Mo_sweep 116 = .ok (.iload 5, 2) := by decide +kernel
theorem d_Mo_sweep_118 : decode b_Mo_sweep 118 = .ok (.invokevirtual 250, 3) := by decide +kernel
theorem d_Mo_sweep_121 : decode b_Mo_sweep 121 = .ok (.aload_n 0, 1) := by decide +kernel
theorem d_Mo_sweep_122 : decode b_Mo_sweep 122 = .ok (.getfield 57, 3) := by decide +kernel
theorem d_Mo_sweep_125 : decode b_Mo_sweep 125 = .ok (.aload_n 0, 1) := by decide +kernel
theorem d_Mo_sweep_126 : decode b_Mo_sweep 126 = .ok (.iload_n 1, 1) := by decide +kernel
theorem d_Mo_sweep_127 : decode b_Mo_sweep 127 = .ok (.iload_n 3, 1) := by decide +kernel
theorem d_Mo_sweep_128 : decode b_Mo_sweep 128 = .ok (.iload 5, 2) := by decide +kernel
theorem d_Mo_sweep_130 : decode b_Mo_sweep 130 = .ok (.invokevirtual 250, 3) := by decide +kernel
theorem d_Mo_sweep_133 : decode b_Mo_sweep 133 = .ok (.laload, 1) := by decide +kernel
theorem d_Mo_sweep_134 : decode b_Mo_sweep 134 = .ok (.lastore, 1) := by decide +kernel
theorem d_Mo_sweep_135 : decode b_Mo_sweep 135 = .ok (.iinc 5 1, 3) := by decide +kernel
theorem d_Mo_sweep_138 : decode b_Mo_sweep 138 = .ok (.goto (-64), 3) := by decide +kernel
theorem d_Mo_sweep_141 : decode b_Mo_sweep 141 = .ok (.aload_n 0, 1) := by decide +kernel
theorem d_Mo_sweep_142 : decode b_Mo_sweep 142 = .ok (.getfield 53, 3) := by decide +kernel
theorem d_Mo_sweep_145 : decode b_Mo_sweep 145 = .ok (.sipush 256, 3) := by decide +kernel
theorem d_Mo_sweep_148 : decode b_Mo_sweep 148 = .ok (.iload_n 1, 1) := by decide +kernel
theorem d_Mo_sweep_149 : decode b_Mo_sweep 149 = .ok (.imul, 1) := by decide +kernel
theorem d_Mo_sweep_150 : decode b_Mo_sweep 150 = .ok (.iload_n 2, 1) := by decide +kernel
theorem d_Mo_sweep_151 : decode b_Mo_sweep 151 = .ok (.iadd, 1) := by decide +kernel
theorem d_Mo_sweep_152 : decode b_Mo_sweep 152 = .ok (.aload_n 0, 1) := by decide +kernel
theorem d_Mo_sweep_153 : decode b_Mo_sweep 153 = .ok (.getfield 53, 3) := by decide +kernel
theorem d_Mo_sweep_156 : decode b_Mo_sweep 156 = .ok (.sipush 256, 3) := by decide +kernel
theorem d_Mo_sweep_159 : decode b_Mo_sweep 159 = .ok (.iload_n 1, 1) := by decide +kernel
theorem d_Mo_sweep_160 : decode b_Mo_sweep 160 = .ok (.imul, 1) := by decide +kernel
theorem d_Mo_sweep_161 : decode b_Mo_sweep 161 = .ok (.iload_n 3, 1) := by decide +kernel
theorem d_Mo_sweep_162 : decode b_Mo_sweep 162 = .ok (.iadd, 1) := by decide +kernel
theorem d_Mo_sweep_163 : decode b_Mo_sweep 163 = .ok (.iaload, 1) := by decide +kernel
theorem d_Mo_sweep_164 : decode b_Mo_sweep 164 = .ok (.iastore, 1) := by decide +kernel
theorem d_Mo_sweep_165 : decode b_Mo_sweep 165 = .ok (.iinc 2 1, 3) := by decide +kernel
theorem d_Mo_sweep_168 : decode b_Mo_sweep 168 = .ok (.iinc 3 1, 3) := by decide +kernel
theorem d_Mo_sweep_171 : decode b_Mo_sweep 171 = .ok (.goto (-167), 3) := by decide +kernel
theorem d_Mo_sweep_174 : decode b_Mo_sweep 174 = .ok (.aload_n 0, 1) := by decide +kernel
theorem d_Mo_sweep_175 : decode b_Mo_sweep 175 = .ok (.getfield 50, 3) := by decide +kernel
theorem d_Mo_sweep_178 : decode b_Mo_sweep 178 = .ok (.iload_n 1, 1) := by decide +kernel
theorem d_Mo_sweep_179 : decode b_Mo_sweep 179 = .ok (.iload_n 2, 1) := by decide +kernel
theorem d_Mo_sweep_180 : decode b_Mo_sweep 180 = .ok (.iastore, 1) := by decide +kernel
theorem d_Mo_sweep_181 : decode b_Mo_sweep 181 = .ok (.aload_n 0, 1) := by decide +kernel
theorem d_Mo_sweep_182 : decode b_Mo_sweep 182 = .ok (.getfield 64, 3) := by decide +kernel
theorem d_Mo_sweep_185 : decode b_Mo_sweep 185 = .ok (.iload_n 1, 1) := by decide +kernel
theorem d_Mo_sweep_186 : decode b_Mo_sweep 186 = .ok (.iconst 1, 1) := by decide +kernel
theorem d_Mo_sweep_187 : decode b_Mo_sweep 187 = .ok (.iadd, 1) := by decide +kernel
theorem d_Mo_sweep_188 : decode b_Mo_sweep 188 = .ok (.aload_n 0, 1) := by decide +kernel
theorem d_Mo_sweep_189 : decode b_Mo_sweep 189 = .ok (.getfield 64, 3) := by decide +kernel
theorem d_Mo_sweep_192 : decode b_Mo_sweep 192 = .ok (.iload_n 1, 1) := by decide +kernel
theorem d_Mo_sweep_193 : decode b_Mo_sweep 193 = .ok (.iaload, 1) := by decide +kernel
theorem d_Mo_sweep_194 : decode b_Mo_sweep 194 = .ok (.iload_n 2, 1) := by decide +kernel
theorem d_Mo_sweep_195 : decode b_Mo_sweep 195 = .ok (.aload_n 0, 1) := by decide +kernel
theorem d_Mo_sweep_196 : decode b_Mo_sweep 196 = .ok (.getfield 234, 3) := by decide +kernel
theorem d_Mo_sweep_199 : decode b_Mo_sweep 199 = .ok (.imul, 1) := by decide +kernel
theorem d_Mo_sweep_200 : decode b_Mo_sweep 200 = .ok (.iadd, 1) := by decide +kernel
theorem d_Mo_sweep_201 : decode b_Mo_sweep 201 = .ok (.iastore, 1) := by decide +kernel
theorem d_Mo_sweep_202 : decode b_Mo_sweep 202 = .ok (.return_, 1) := by decide +kernel
theorem d_Mo_number_0 : decode b_Mo_number 0 = .ok (.aload_n 0, 1) := by decide +kernel
theorem d_Mo_number_1 : decode b_Mo_number 1 = .ok (.getfield 41, 3) := by decide +kernel
theorem d_Mo_number_4 : decode b_Mo_number 4 = .ok (.aload_n 0, 1) := by decide +kernel
theorem d_Mo_number_5 : decode b_Mo_number 5 = .ok (.getfield 253, 3) := by decide +kernel
theorem d_Mo_number_8 : decode b_Mo_number 8 = .ok (.iconst 0, 1) := by decide +kernel
theorem d_Mo_number_9 : decode b_Mo_number 9 = .ok (.iastore, 1) := by decide +kernel
theorem d_Mo_number_10 : decode b_Mo_number 10 = .ok (.aload_n 0, 1) := by decide +kernel
theorem d_Mo_number_11 : decode b_Mo_number 11 = .ok (.getfield 50, 3) := by decide +kernel
theorem d_Mo_number_14 : decode b_Mo_number 14 = .ok (.aload_n 0, 1) := by decide +kernel
theorem d_Mo_number_15 : decode b_Mo_number 15 = .ok (.getfield 253, 3) := by decide +kernel
theorem d_Mo_number_18 : decode b_Mo_number 18 = .ok (.iconst 1, 1) := by decide +kernel
theorem d_Mo_number_19 : decode b_Mo_number 19 = .ok (.iastore, 1) := by decide +kernel
theorem d_Mo_number_20 : decode b_Mo_number 20 = .ok (.aload_n 0, 1) := by decide +kernel
theorem d_Mo_number_21 : decode b_Mo_number 21 = .ok (.getfield 53, 3) := by decide +kernel
theorem d_Mo_number_24 : decode b_Mo_number 24 = .ok (.sipush 256, 3) := by decide +kernel
theorem d_Mo_number_27 : decode b_Mo_number 27 = .ok (.aload_n 0, 1) := by decide +kernel
theorem d_Mo_number_28 : decode b_Mo_number 28 = .ok (.getfield 253, 3) := by decide +kernel
theorem d_Mo_number_31 : decode b_Mo_number 31 = .ok (.imul, 1) := by decide +kernel
theorem d_Mo_number_32 : decode b_Mo_number 32 = .ok (.iconst 0, 1) := by decide +kernel
theorem d_Mo_number_33 : decode b_Mo_number 33 = .ok (.iastore, 1) := by decide +kernel
theorem d_Mo_number_34 : decode b_Mo_number 34 = .ok (.iconst 0, 1) := by decide +kernel
theorem d_Mo_number_35 : decode b_Mo_number 35 = .ok (.istore_n 1, 1) := by decide +kernel
theorem d_Mo_number_36 : decode b_Mo_number 36 = .ok (.iload_n 1, 1) := by decide +kernel
theorem d_Mo_number_37 : decode b_Mo_number 37 = .ok (.aload_n 0, 1) := by decide +kernel
theorem d_Mo_number_38 : decode b_Mo_number 38 = .ok (.getfield 234, 3) := by decide +kernel
theorem d_Mo_number_41 : decode b_Mo_number 41 = .ok (.if_icmp .ge 44, 3) := by decide +kernel
theorem d_Mo_number_44 : decode b_Mo_number 44 = .ok (.aload_n 0, 1) := by decide +kernel
theorem d_Mo_number_45 : decode b_Mo_number 45 = .ok (.getfield 60, 3) := by decide +kernel
theorem d_Mo_number_48 : decode b_Mo_number 48 = .ok (.aload_n 0, 1) := by decide +kernel
theorem d_Mo_number_49 : decode b_Mo_number 49 = .ok (.aload_n 0, 1) := by decide +kernel
theorem d_Mo_number_50 : decode b_Mo_number 50 = .ok (.getfield 253, 3) := by decide +kernel
theorem d_Mo_number_53 : decode b_Mo_number 53 = .ok (.iconst 0, 1) := by decide +kernel
theorem d_Mo_number_54 : decode b_Mo_number 54 = .ok (.iload_n 1, 1) := by decide +kernel
theorem d_Mo_number_55 : decode b_Mo_number 55 = .ok (.invokevirtual 250, 3) := by decide +kernel
theorem d_Mo_number_58 : decode b_Mo_number 58 = .ok (.iconst 1, 1) := by decide +kernel
theorem d_Mo_number_59 : decode b_Mo_number 59 = .ok (.bastore, 1) := by decide +kernel
theorem d_Mo_number_60 : decode b_Mo_number 60 = .ok (.aload_n 0, 1) := by decide +kernel
theorem d_Mo_number_61 : decode b_Mo_number 61 = .ok (.getfield 57, 3) := by decide +kernel
theorem d_Mo_number_64 : decode b_Mo_number 64 = .ok (.aload_n 0, 1) := by decide +kernel
theorem d_Mo_number_65 : decode b_Mo_number 65 = .ok (.aload_n 0, 1) := by decide +kernel
theorem d_Mo_number_66 : decode b_Mo_number 66 = .ok (.getfield 253, 3) := by decide +kernel
theorem d_Mo_number_69 : decode b_Mo_number 69 = .ok (.iconst 0, 1) := by decide +kernel
theorem d_Mo_number_70 : decode b_Mo_number 70 = .ok (.iload_n 1, 1) := by decide +kernel
theorem d_Mo_number_71 : decode b_Mo_number 71 = .ok (.invokevirtual 250, 3) := by decide +kernel
theorem d_Mo_number_74 : decode b_Mo_number 74 = .ok (.aload_n 0, 1) := by decide +kernel
theorem d_Mo_number_75 : decode b_Mo_number 75 = .ok (.getfield 216, 3) := by decide +kernel
theorem d_Mo_number_78 : decode b_Mo_number 78 = .ok (.lastore, 1) := by decide +kernel
theorem d_Mo_number_79 : decode b_Mo_number 79 = .ok (.iinc 1 1, 3) := by decide +kernel
theorem d_Mo_number_82 : decode b_Mo_number 82 = .ok (.goto (-46), 3) := by decide +kernel
theorem d_Mo_number_85 : decode b_Mo_number 85 = .ok (.aload_n 0, 1) := by decide +kernel
theorem d_Mo_number_86 : decode b_Mo_number 86 = .ok (.dup, 1) := by decide +kernel
theorem d_Mo_number_87 : decode b_Mo_number 87 = .ok (.getfield 253, 3) := by decide +kernel
theorem d_Mo_number_90 : decode b_Mo_number 90 = .ok (.iconst 1, 1) := by decide +kernel
theorem d_Mo_number_91 : decode b_Mo_number 91 = .ok (.iadd, 1) := by decide +kernel
theorem d_Mo_number_92 : decode b_Mo_number 92 = .ok (.putfield 253, 3) := by decide +kernel
theorem d_Mo_number_95 : decode b_Mo_number 95 = .ok (.aload_n 0, 1) := by decide +kernel
theorem d_Mo_number_96 : decode b_Mo_number 96 = .ok (.getfield 64, 3) := by decide +kernel
theorem d_Mo_number_99 : decode b_Mo_number 99 = .ok (.aload_n 0, 1) := by decide +kernel
theorem d_Mo_number_100 : decode b_Mo_number 100 = .ok (.getfield 253, 3) := by decide +kernel
theorem d_Mo_number_103 : decode b_Mo_number 103 = .ok (.aload_n 0, 1) := by decide +kernel
theorem d_Mo_number_104 : decode b_Mo_number 104 = .ok (.getfield 64, 3) := by decide +kernel
theorem d_Mo_number_107 : decode b_Mo_number 107 = .ok (.aload_n 0, 1) := by decide +kernel
theorem d_Mo_number_108 : decode b_Mo_number 108 = .ok (.getfield 253, 3) := by decide +kernel
theorem d_Mo_number_111 : decode b_Mo_number 111 = .ok (.iconst 1, 1) := by decide +kernel
theorem d_Mo_number_112 : decode b_Mo_number 112 = .ok (.isub, 1) := by decide +kernel
theorem d_Mo_number_113 : decode b_Mo_number 113 = .ok (.iaload, 1) := by decide +kernel
theorem d_Mo_number_114 : decode b_Mo_number 114 = .ok (.aload_n 0, 1) := by decide +kernel
theorem d_Mo_number_115 : decode b_Mo_number 115 = .ok (.getfield 234, 3) := by decide +kernel
theorem d_Mo_number_118 : decode b_Mo_number 118 = .ok (.iadd, 1) := by decide +kernel
theorem d_Mo_number_119 : decode b_Mo_number 119 = .ok (.iastore, 1) := by decide +kernel
theorem d_Mo_number_120 : decode b_Mo_number 120 = .ok (.return_, 1) := by decide +kernel
theorem d_Mo_hasSameNames_0 : decode b_Mo_hasSameNames 0 = .ok (.aload_n 0, 1) := by decide +kernel
theorem d_Mo_hasSameNames_1 : decode b_Mo_hasSameNames 1 = .ok (.getfield 41, 3) := by decide +kernel
theorem d_Mo_hasSameNames_4 : decode b_Mo_hasSameNames 4 = .ok (.iload_n 1, 1) := by decide +kernel
theorem d_Mo_hasSameNames_5 : decode b_Mo_hasSameNames 5 = .ok (.iaload, 1) := by decide +kernel
theorem d_Mo_hasSameNames_6 : decode b_Mo_hasSameNames 6 = .ok (.aload_n 0, 1) := by decide +kernel
theorem d_Mo_hasSameNames_7 : decode b_Mo_hasSameNames 7 = .ok (.getfield 41, 3) := by decide +kernel
theorem d_Mo_hasSameNames_10 : decode b_Mo_hasSameNames 10 = .ok (.iload_n 2, 1) := by decide +kernel
theorem d_Mo_hasSameNames_11 : decode b_Mo_hasSameNames 11 = .ok (.iaload, 1) := by decide +kernel
theorem d_Mo_hasSameNames_12 : decode b_Mo_hasSameNames 12 = .ok (.if_icmp .ne 7, 3) := by decide +kernel
theorem d_Mo_hasSameNames_15 : decode b_Mo_hasSameNames 15 = .ok (.iconst 1, 1) := by decide +kernel
theorem d_Mo_hasSameNames_16 : decode b_Mo_hasSameNames 16 = .ok (.goto 4, 3) := by decide +kernel
theorem d_Mo_hasSameNames_19 : decode b_Mo_hasSameNames 19 = .ok (.iconst 0, 1) := by decide +kernel
theorem d_Mo_hasSameNames_20 : decode b_Mo_hasSameNames 20 = .ok (.istore_n 3, 1) := by decide +kernel
theorem d_Mo_hasSameNames_21 : decode b_Mo_hasSameNames 21 = .ok (.iconst 0, 1) := by decide +kernel
theorem d_Mo_hasSameNames_22 : decode b_Mo_hasSameNames 22 = .ok (.istore 4, 2) := by decide +kernel
theorem d_Mo_hasSameNames_24 : decode b_Mo_hasSameNames 24 = .ok (.iload 4, 2) := by decide +kernel
theorem d_Mo_hasSameNames_26 : decode b_Mo_hasSameNames 26 = .ok (.aload_n 0, 1) := by decide +kernel
theorem d_Mo_hasSameNames_27 : decode b_Mo_hasSameNames 27 = .ok (.getfield 41, 3) := by decide +kernel
theorem d_Mo_hasSameNames_30 : decode b_Mo_hasSameNames 30 = .ok (.iload_n 1, 1) := by decide +kernel
theorem d_Mo_hasSameNames_31 : decode b_Mo_hasSameNames 31 = .ok (.iaload, 1) := by decide +kernel
theorem d_Mo_hasSameNames_32 : decode b_Mo_hasSameNames 32 = .ok (.if_icmp .ge 119, 3) := by decide +kernel
theorem d_Mo_hasSameNames_35 : decode b_Mo_hasSameNames 35 = .ok (.iload_n 3, 1) := by decide +kernel
theorem d_Mo_hasSameNames_36 : decode b_Mo_hasSameNames 36 = .ok (.ifCond .eq 115, 3) := by decide +kernel
theorem d_Mo_hasSameNames_39 : decode b_Mo_hasSameNames 39 = .ok (.aload_n 0, 1) := by decide +kernel
theorem d_Mo_hasSameNames_40 : decode b_Mo_hasSameNames 40 = .ok (.getfield 47, 3) := by decide +kernel
theorem d_Mo_hasSameNames_43 : decode b_Mo_hasSameNames 43 = .ok (.bipush 6, 2) := by decide +kernel
theorem d_Mo_hasSameNames_45 : decode b_Mo_hasSameNames 45 = .ok (.iload_n 1, 1) := by decide +kernel
theorem d_Mo_hasSameNames_46 : decode b_Mo_hasSameNames 46 = .ok (.imul, 1) := by decide +kernel
theorem d_Mo_hasSameNames_47 : decode b_Mo_hasSameNames 47 = .ok (.iload 4, 2) := by decide +kernel
theorem d_Mo_hasSameNames_49 : decode b_Mo_hasSameNames 49 = .ok (.iadd, 1) := by decide +kernel
theorem d_Mo_hasSameNames_50 : decode b_Mo_hasSameNames 50 = .ok (.iaload, 1) := by decide +kernel
theorem d_Mo_hasSameNames_51 : decode b_Mo_hasSameNames 51 = .ok (.istore 5, 2) := by decide +kernel
theorem d_Mo_hasSameNames_53 : decode b_Mo_hasSameNames 53 = .ok (.iload 5, 2) := by decide +kernel
theorem d_Mo_hasSameNames_55 : decode b_Mo_hasSameNames 55 = .ok (.aload_n 0, 1) := by decide +kernel
theorem d_Mo_hasSameNames_56 : decode b_Mo_hasSameNames 56 = .ok (.getfield 47, 3) := by decide +kernel
theorem d_Mo_hasSameNames_59 : decode b_Mo_hasSameNames 59 = .ok (.bipush 6, 2) := by decide +kernel
theorem d_Mo_hasSameNames_61 : decode b_Mo_hasSameNames 61 = .ok (.iload_n 2, 1) := by decide +kernel
theorem d_Mo_hasSameNames_62 : decode b_Mo_hasSameNames 62 = .ok (.imul, 1) := by decide +kernel
theorem d_Mo_hasSameNames_63 : decode b_Mo_hasSameNames 63 = .ok (.iload 4, 2) := by decide +kernel
theorem d_Mo_hasSameNames_65 : decode b_Mo_hasSameNames 65 = .ok (.iadd, 1) := by decide +kernel
theorem d_Mo_hasSameNames_66 : decode b_Mo_hasSameNames 66 = .ok (.iaload, 1) := by decide +kernel
theorem d_Mo_hasSameNames_67 : decode b_Mo_hasSameNames 67 = .ok (.if_icmp .ne 7, 3) := by decide +kernel
theorem d_Mo_hasSameNames_70 : decode b_Mo_hasSameNames 70 = .ok (.iconst 1, 1) := by decide +kernel
theorem d_Mo_hasSameNames_71 : decode b_Mo_hasSameNames 71 = .ok (.goto 4, 3) := by decide +kernel
theorem d_Mo_hasSameNames_74 : decode b_Mo_hasSameNames 74 = .ok (.iconst 0, 1) := by decide +kernel
theorem d_Mo_hasSameNames_75 : decode b_Mo_hasSameNames 75 = .ok (.istore_n 3, 1) := by decide +kernel
theorem d_Mo_hasSameNames_76 : decode b_Mo_hasSameNames 76 = .ok (.iconst 0, 1) := by decide +kernel
theorem d_Mo_hasSameNames_77 : decode b_Mo_hasSameNames 77 = .ok (.istore 6, 2) := by decide +kernel
theorem d_Mo_hasSameNames_79 : decode b_Mo_hasSameNames 79 = .ok (.iload 6, 2) := by decide +kernel
theorem d_Mo_hasSameNames_81 : decode b_Mo_hasSameNames 81 = .ok (.iload 5, 2) := by decide +kernel
theorem d_Mo_hasSameNames_83 : decode b_Mo_hasSameNames 83 = .ok (.if_icmp .ge 62, 3) := by decide +kernel
theorem d_Mo_hasSameNames_86 : decode b_Mo_hasSameNames 86 = .ok (.iload_n 3, 1) := by decide +kernel
theorem d_Mo_hasSameNames_87 : decode b_Mo_hasSameNames 87 = .ok (.ifCond .eq 58, 3) := by decide +kernel
theorem d_Mo_hasSameNames_90 : decode b_Mo_hasSameNames 90 = .ok (.aload_n 0, 1) := by decide +kernel
theorem d_Mo_hasSameNames_91 : decode b_Mo_hasSameNames 91 = .ok (.getfield 8, 3) := by decide +kernel
theorem d_Mo_hasSameNames_94 : decode b_Mo_hasSameNames 94 = .ok (.aload_n 0, 1) := by decide +kernel
theorem d_Mo_hasSameNames_95 : decode b_Mo_hasSameNames 95 = .ok (.getfield 44, 3) := by decide +kernel
theorem d_Mo_hasSameNames_98 : decode b_Mo_hasSameNames 98 = .ok (.bipush 6, 2) := by decide +kernel
theorem d_Mo_hasSameNames_100 : decode b_Mo_hasSameNames 100 = .ok (.iload_n 1, 1) := by decide +kernel
theorem d_Mo_hasSameNames_101 : decode b_Mo_hasSameNames 101 = .ok (.imul, 1) := by decide +kernel
theorem d_Mo_hasSameNames_102 : decode b_Mo_hasSameNames 102 = .ok (.iload 4, 2) := by decide +kernel
theorem d_Mo_hasSameNames_104 : decode b_Mo_hasSameNames 104 = .ok (.iadd, 1) := by decide +kernel
theorem d_Mo_hasSameNames_105 : decode b_Mo_hasSameNames 105 = .ok (.iaload, 1) := by decide +kernel
theorem d_Mo_hasSameNames_106 : decode b_Mo_hasSameNames 106 = .ok (.iload 6, 2) := by decide +kernel
theorem d_Mo_hasSameNames_108 : decode b_Mo_hasSameNames 108 = .ok (.iadd, 1) := by decide +kernel
theorem d_Mo_hasSameNames_109 : decode b_Mo_hasSameNames 109 = .ok (.baload, 1) := by decide +kernel
theorem d_Mo_hasSameNames_110 : decode b_Mo_hasSameNames 110 = .ok (.aload_n 0, 1) := by decide +kernel
theorem d_Mo_hasSameNames_111 : decode b_Mo_hasSameNames 111 = .ok (.getfield 8, 3) := by decide +kernel
theorem d_Mo_hasSameNames_114 : decode b_Mo_hasSameNames 114 = .ok (.aload_n 0, 1) := by decide +kernel
theorem d_Mo_hasSameNames_115 : decode b_Mo_hasSameNames 115 = .ok (.getfield 44, 3) := by decide +kernel
theorem d_Mo_hasSameNames_118 : decode b_Mo_hasSameNames 118 = .ok (.bipush 6, 2) := by decide +kernel
theorem d_Mo_hasSameNames_120 : decode b_Mo_hasSameNames 120 = .ok (.iload_n 2, 1) := by decide +kernel
theorem d_Mo_hasSameNames_121 : decode b_Mo_hasSameNames 121 = .ok (.imul, 1) := by decide +kernel
theorem d_Mo_hasSameNames_122 : decode b_Mo_hasSameNames 122 = .ok (.iload 4, 2) := by decide +kernel
theorem d_Mo_hasSameNames_124 : decode b_Mo_hasSameNames 124 = .ok (.iadd, 1) := by decide +kernel
theorem d_Mo_hasSameNames_125 : decode b_Mo_hasSameNames 125 = .ok (.iaload, 1) := by decide +kernel
theorem d_Mo_hasSameNames_126 : decode b_Mo_hasSameNames 126 = .ok (.iload 6, 2) := by decide +kernel
theorem d_Mo_hasSameNames_128 : decode b_Mo_hasSameNames 128 = .ok (.iadd, 1) := by decide +kernel
theorem d_Mo_hasSameNames_129 : decode b_Mo_hasSameNames 129 = .ok (.baload, 1) := by decide +kernel
theorem d_Mo_hasSameNames_130 : decode b_Mo_hasSameNames 130 = .ok (.if_icmp .ne 7, 3) := by decide +kernel
theorem d_Mo_hasSameNames_133 : decode b_Mo_hasSameNames 133 = .ok (.iconst 1, 1) := by decide +kernel
theorem d_Mo_hasSameNames_134 : decode b_Mo_hasSameNames 134 = .ok (.goto 4, 3) := by decide +kernel
theorem d_Mo_hasSameNames_137 : decode b_Mo_hasSameNames 137 = .ok (.iconst 0, 1) := by decide +kernel
theorem d_Mo_hasSameNames_138 : decode b_Mo_hasSameNames 138 = .ok (.istore_n 3, 1) := by decide +kernel
theorem d_Mo_hasSameNames_139 : decode b_Mo_hasSameNames 139 = .ok (.iinc 6 1, 3) := by decide +kernel
theorem d_Mo_hasSameNames_142 : decode b_Mo_hasSameNames 142 = .ok (.goto (-63), 3) := by decide +kernel
theorem d_Mo_hasSameNames_145 : decode b_Mo_hasSameNames 145 = .ok (.iinc 4 1, 3) := by decide +kernel
theorem d_Mo_hasSameNames_148 : decode b_Mo_hasSameNames 148 = .ok (.goto (-124), 3) := by decide +kernel
theorem d_Mo_hasSameNames_151 : decode b_Mo_hasSameNames 151 = .ok (.iload_n 3, 1) := by decide +kernel
theorem d_Mo_hasSameNames_152 : decode b_Mo_hasSameNames 152 = .ok (.ireturn, 1) := by decide +kernel
theorem d_Mo_join_0 : decode b_Mo_join 0 = .ok (.aload_n 0, 1) := by decide +kernel
theorem d_Mo_join_1 : decode b_Mo_join 1 = .ok (.getfield 60, 3) := by decide +kernel
theorem d_Mo_join_4 : decode b_Mo_join 4 = .ok (.iload_n 3, 1) := by decide +kernel
theorem d_Mo_join_5 : decode b_Mo_join 5 = .ok (.baload, 1) := by decide +kernel
theorem d_Mo_join_6 : decode b_Mo_join 6 = .ok (.ifCond .eq 41, 3) := by decide +kernel
theorem d_Mo_join_9 : decode b_Mo_join 9 = .ok (.aload_n 0, 1) := by decide +kernel
theorem d_Mo_join_10 : decode b_Mo_join 10 = .ok (.getfield 60, 3) := by decide +kernel
theorem d_Mo_join_13 : decode b_Mo_join 13 = .ok (.iload 4, 2) := by decide +kernel
theorem d_Mo_join_15 : decode b_Mo_join 15 = .ok (.baload, 1) := by decide +kernel
theorem d_Mo_join_16 : decode b_Mo_join 16 = .ok (.ifCond .eq 31, 3) := by decide +kernel
theorem d_Mo_join_19 : decode b_Mo_join 19 = .ok (.iload_n 1, 1) := by decide +kernel
theorem d_Mo_join_20 : decode b_Mo_join 20 = .ok (.bipush 47, 2) := by decide +kernel
theorem d_Mo_join_22 : decode b_Mo_join 22 = .ok (.if_icmp .eq 9, 3) := by decide +kernel
theorem d_Mo_join_25 : decode b_Mo_join 25 = .ok (.iload_n 1, 1) := by decide +kernel
theorem d_Mo_join_26 : decode b_Mo_join 26 = .ok (.bipush 37, 2) := by decide +kernel
theorem d_Mo_join_28 : decode b_Mo_join 28 = .ok (.if_icmp .ne 15, 3) := by decide +kernel
theorem d_Mo_join_31 : decode b_Mo_join 31 = .ok (.aload_n 0, 1) := by decide +kernel
theorem d_Mo_join_32 : decode b_Mo_join 32 = .ok (.getfield 57, 3) := by decide +kernel
theorem d_Mo_join_35 : decode b_Mo_join 35 = .ok (.iload 4, 2) := by decide +kernel
theorem d_Mo_join_37 : decode b_Mo_join 37 = .ok (.laload, 1) := by decide +kernel
theorem d_Mo_join_38 : decode b_Mo_join 38 = .ok (.lconst 0, 1) := by decide +kernel
theorem d_Mo_join_39 : decode b_Mo_join 39 = .ok (.lcmp, 1) := by decide +kernel
theorem d_Mo_join_40 : decode b_Mo_join 40 = .ok (.ifCond .eq 7, 3) := by decide +kernel
theorem d_Mo_join_43 : decode b_Mo_join 43 = .ok (.iconst 1, 1) := by decide +kernel
theorem d_Mo_join_44 : decode b_Mo_join 44 = .ok (.goto 4, 3) := by decide +kernel
theorem d_Mo_join_47 : decode b_Mo_join 47 = .ok (.iconst 0, 1) := by decide +kernel
theorem d_Mo_join_48 : decode b_Mo_join 48 = .ok (.istore 5, 2) := by decide +kernel
theorem d_Mo_join_50 : decode b_Mo_join 50 = .ok (.aload_n 0, 1) := by decide +kernel
theorem d_Mo_join_51 : decode b_Mo_join 51 = .ok (.getfield 57, 3) := by decide +kernel
theorem d_Mo_join_54 : decode b_Mo_join 54 = .ok (.iload_n 3, 1) := by decide +kernel
theorem d_Mo_join_55 : decode b_Mo_join 55 = .ok (.laload, 1) := by decide +kernel
theorem d_Mo_join_56 : decode b_Mo_join 56 = .ok (.lstore 6, 2) := by decide +kernel
theorem d_Mo_join_58 : decode b_Mo_join 58 = .ok (.aload_n 0, 1) := by decide +kernel
theorem d_Mo_join_59 : decode b_Mo_join 59 = .ok (.getfield 57, 3) := by decide +kernel
theorem d_Mo_join_62 : decode b_Mo_join 62 = .ok (.iload 4, 2) := by decide +kernel
theorem d_Mo_join_64 : decode b_Mo_join 64 = .ok (.laload, 1) := by decide +kernel
theorem d_Mo_join_65 : decode b_Mo_join 65 = .ok (.lstore 8, 2) := by decide +kernel
theorem d_Mo_join_67 : decode b_Mo_join 67 = .ok (.aload_n 0, 1) := by decide +kernel
theorem d_Mo_join_68 : decode b_Mo_join 68 = .ok (.getfield 60, 3) := by decide +kernel
theorem d_Mo_join_71 : decode b_Mo_join 71 = .ok (.iload_n 2, 1) := by decide +kernel
theorem d_Mo_join_72 : decode b_Mo_join 72 = .ok (.iload 5, 2) := by decide +kernel
theorem d_Mo_join_74 : decode b_Mo_join 74 = .ok (.bastore, 1) := by decide +kernel
theorem d_Mo_join_75 : decode b_Mo_join 75 = .ok (.aload_n 0, 1) := by decide +kernel
theorem d_Mo_join_76 : decode b_Mo_join 76 = .ok (.getfield 57, 3) := by decide +kernel
theorem d_Mo_join_79 : decode b_Mo_join 79 = .ok (.iload_n 2, 1) := by decide +kernel
theorem d_Mo_join_80 : decode b_Mo_join 80 = .ok (.iload 5, 2) := by decide +kernel
theorem d_Mo_join_82 : decode b_Mo_join 82 = .ok (.ifCond .ne 7, 3) := by decide +kernel
theorem d_Mo_join_85 : decode b_Mo_join 85 = .ok (.lconst 0, 1) := by decide +kernel
theorem d_Mo_join_86 : decode b_Mo_join 86 = .ok (.goto 64, 3) := by decide +kernel
theorem d_Mo_join_89 : decode b_Mo_join 89 = .ok (.iload_n 1, 1) := by decide +kernel
theorem d_Mo_join_90 : decode b_Mo_join 90 = .ok (.bipush 43, 2) := by decide +kernel
theorem d_Mo_join_92 : decode b_Mo_join 92 = .ok (.if_icmp .ne 11, 3) := by decide +kernel
theorem d_Mo_join_95 : decode b_Mo_join 95 = .ok (.lload 6, 2) := by decide +kernel
theorem d_Mo_join_97 : decode b_Mo_join 97 = .ok (.lload 8, 2) := by decide +kernel
theorem d_Mo_join_99 : decode b_Mo_join 99 = .ok (.ladd, 1) := by decide +kernel
theorem d_Mo_join_100 : decode b_Mo_join 100 = .ok (.goto 50, 3) := by decide +kernel
theorem d_Mo_join_103 : decode b_Mo_join 103 = .ok (.iload_n 1, 1) := by decide +kernel
theorem d_Mo_join_104 : decode b_Mo_join 104 = .ok (.bipush 45, 2) := by decide +kernel
theorem d_Mo_join_106 : decode b_Mo_join 106 = .ok (.if_icmp .ne 11, 3) := by decide +kernel
theorem d_Mo_join_109 : decode b_Mo_join 109 = .ok (.lload 6, 2) := by decide +kernel
theorem d_Mo_join_111 : decode b_Mo_join 111 = .ok (.lload 8, 2) := by decide +kernel
theorem d_Mo_join_113 : decode b_Mo_join 113 = .ok (.lsub, 1) := by decide +kernel
theorem d_Mo_join_114 : decode b_Mo_join 114 = .ok (.goto 36, 3) := by decide +kernel
theorem d_Mo_join_117 : decode b_Mo_join 117 = .ok (.iload_n 1, 1) := by decide +kernel
theorem d_Mo_join_118 : decode b_Mo_join 118 = .ok (.bipush 42, 2) := by decide +kernel
theorem d_Mo_join_120 : decode b_Mo_join 120 = .ok (.if_icmp .ne 11, 3) := by decide +kernel
theorem d_Mo_join_123 : decode b_Mo_join 123 = .ok (.lload 6, 2) := by decide +kernel
theorem d_Mo_join_125 : decode b_Mo_join 125 = .ok (.lload 8, 2) := by decide +kernel
theorem d_Mo_join_127 : decode b_Mo_join 127 = .ok (.lmul, 1) := by decide +kernel
theorem d_Mo_join_128 : decode b_Mo_join 128 = .ok (.goto 22, 3) := by decide +kernel
theorem d_Mo_join_131 : decode b_Mo_join 131 = .ok (.iload_n 1, 1) := by decide +kernel
theorem d_Mo_join_132 : decode b_Mo_join 132 = .ok (.bipush 47, 2) := by decide +kernel
theorem d_Mo_join_134 : decode b_Mo_join 134 = .ok (.if_icmp .ne 11, 3) := by decide +kernel
theorem d_Mo_join_137 : decode b_Mo_join 137 = .ok (.lload 6, 2) := by decide +kernel
theorem d_Mo_join_139 : decode b_Mo_join 139 = .ok (.lload 8, 2) := by decide +kernel
theorem d_Mo_join_141 : decode b_Mo_join 141 = .ok (.ldiv, 1) := by decide +kernel
theorem d_Mo_join_142 : decode b_Mo_join 142 = .ok (.goto 8, 3) := by decide +kernel
theorem d_Mo_join_145 : decode b_Mo_join 145 = .ok (.lload 6, 2) := by decide +kernel
theorem d_Mo_join_147 : decode b_Mo_join 147 = .ok (.lload 8, 2) := by decide +kernel
theorem d_Mo_join_149 : decode b_Mo_join 149 = .ok (.lrem, 1) := by decide +kernel
theorem d_Mo_join_150 : decode b_Mo_join 150 = .ok (.lastore, 1) := by decide +kernel
theorem d_Mo_join_151 : decode b_Mo_join 151 = .ok (.return_, 1) := by decide +kernel
theorem d_Mo_operate_0 : decode b_Mo_operate 0 = .ok (.aload_n 0, 1) := by decide +kernel
theorem d_Mo_operate_1 : decode b_Mo_operate 1 = .ok (.getfield 253, 3) := by decide +kernel
theorem d_Mo_operate_4 : decode b_Mo_operate 4 = .ok (.iconst 2, 1) := by decide +kernel
theorem d_Mo_operate_5 : decode b_Mo_operate 5 = .ok (.isub, 1) := by decide +kernel
theorem d_Mo_operate_6 : decode b_Mo_operate 6 = .ok (.istore_n 3, 1) := by decide +kernel
theorem d_Mo_operate_7 : decode b_Mo_operate 7 = .ok (.aload_n 0, 1) := by decide +kernel
theorem d_Mo_operate_8 : decode b_Mo_operate 8 = .ok (.getfield 253, 3) := by decide +kernel
theorem d_Mo_operate_11 : decode b_Mo_operate 11 = .ok (.iconst 1, 1) := by decide +kernel
theorem d_Mo_operate_12 : decode b_Mo_operate 12 = .ok (.isub, 1) := by decide +kernel
theorem d_Mo_operate_13 : decode b_Mo_operate 13 = .ok (.istore 4, 2) := by decide +kernel
theorem d_Mo_operate_15 : decode b_Mo_operate 15 = .ok (.aload_n 0, 1) := by decide +kernel
theorem d_Mo_operate_16 : decode b_Mo_operate 16 = .ok (.iload_n 3, 1) := by decide +kernel
theorem d_Mo_operate_17 : decode b_Mo_operate 17 = .ok (.iload 4, 2) := by decide +kernel
theorem d_Mo_operate_19 : decode b_Mo_operate 19 = .ok (.invokevirtual 277, 3) := by decide +kernel
theorem d_Mo_operate_22 : decode b_Mo_operate 22 = .ok (.ifCond .eq 14, 3) := by decide +kernel
theorem d_Mo_operate_25 : decode b_Mo_operate 25 = .ok (.aload_n 0, 1) := by decide +kernel
theorem d_Mo_operate_26 : decode b_Mo_operate 26 = .ok (.iload_n 1, 1) := by decide +kernel
theorem d_Mo_operate_27 : decode b_Mo_operate 27 = .ok (.iload_n 3, 1) := by decide +kernel
theorem d_Mo_operate_28 : decode b_Mo_operate 28 = .ok (.iload 4, 2) := by decide +kernel
theorem d_Mo_operate_30 : decode b_Mo_operate 30 = .ok (.invokevirtual 280, 3) := by decide +kernel
theorem d_Mo_operate_33 : decode b_Mo_operate 33 = .ok (.goto 149, 3) := by decide +kernel
theorem d_Mo_operate_36 : decode b_Mo_operate 36 = .ok (.aload_n 0, 1) := by decide +kernel
theorem d_Mo_operate_37 : decode b_Mo_operate 37 = .ok (.getfield 41, 3) := by decide +kernel
theorem d_Mo_operate_40 : decode b_Mo_operate 40 = .ok (.iload 4, 2) := by decide +kernel
theorem d_Mo_operate_42 : decode b_Mo_operate 42 = .ok (.iaload, 1) := by decide +kernel
theorem d_Mo_operate_43 : decode b_Mo_operate 43 = .ok (.ifCond .ne 112, 3) := by decide +kernel
theorem d_Mo_operate_46 : decode b_Mo_operate 46 = .ok (.iconst 0, 1) := by decide +kernel
theorem d_Mo_operate_47 : decode b_Mo_operate 47 = .ok (.istore 5, 2) := by decide +kernel
theorem d_Mo_operate_49 : decode b_Mo_operate 49 = .ok (.iload 5, 2) := by decide +kernel
theorem d_Mo_operate_51 : decode b_Mo_operate 51 = .ok (.aload_n 0, 1) := by decide +kernel
theorem d_Mo_operate_52 : decode b_Mo_operate 52 = .ok (.getfield 50, 3) := by decide +kernel
theorem d_Mo_operate_55 : decode b_Mo_operate 55 = .ok (.iload_n 3, 1) := by decide +kernel
theorem d_Mo_operate_56 : decode b_Mo_operate 56 = .ok (.iaload, 1) := by decide +kernel
theorem d_Mo_operate_57 : decode b_Mo_operate 57 = .ok (.if_icmp .ge 69, 3) := by decide +kernel
theorem d_Mo_operate_60 : decode b_Mo_operate 60 = .ok (.iconst 0, 1) := by decide +kernel
theorem d_Mo_operate_61 : decode b_Mo_operate 61 = .ok (.istore 6, 2) := by decide +kernel
theorem d_Mo_operate_63 : decode b_Mo_operate 63 = .ok (.iload 6, 2) := by decide +kernel
theorem d_Mo_operate_65 : decode b_Mo_operate 65 = .ok (.aload_n 0, 1) := by decide +kernel
theorem d_Mo_operate_66 : decode b_Mo_operate 66 = .ok (.getfield 234, 3) := by decide +kernel
theorem d_Mo_operate_69 : decode b_Mo_operate 69 = .ok (.if_icmp .ge 51, 3) := by decide +kernel
theorem d_Mo_operate_72 : decode b_Mo_operate 72 = .ok (.aload_n 0, 1) := by decide +kernel
theorem d_Mo_operate_73 : decode b_Mo_operate 73 = .ok (.getfield 50, 3) := by decide +kernel
theorem d_Mo_operate_76 : decode b_Mo_operate 76 = .ok (.iload 4, 2) := by decide +kernel
theorem d_Mo_operate_78 : decode b_Mo_operate 78 = .ok (.iaload, 1) := by decide +kernel
theorem d_Mo_operate_79 : decode b_Mo_operate 79 = .ok (.ifCond .le 41, 3) := by decide +kernel
theorem d_Mo_operate_82 : decode b_Mo_operate 82 = .ok (.aload_n 0, 1) := by decide +kernel
theorem d_Mo_operate_83 : decode b_Mo_operate 83 = .ok (.iload_n 1, 1) := by decide +kernel
theorem d_Mo_operate_84 : decode b_Mo_operate 84 = .ok (.aload_n 0, 1) := by decide +kernel
theorem d_Mo_operate_85 : decode b_Mo_operate 85 = .ok (.iload_n 3, 1) := by decide +kernel
theorem d_Mo_operate_86 : decode b_Mo_operate 86 = .ok (.iload 5, 2) := by decide +kernel
theorem d_Mo_operate_88 : decode b_Mo_operate 88 = .ok (.iload 6, 2) := by decide +kernel
theorem d_Mo_operate_90 : decode b_Mo_operate 90 = .ok (.invokevirtual 250, 3) := by decide +kernel
theorem d_Mo_operate_93 : decode b_Mo_operate 93 = .ok (.aload_n 0, 1) := by decide +kernel
theorem d_Mo_operate_94 : decode b_Mo_operate 94 = .ok (.iload_n 3, 1) := by decide +kernel
theorem d_Mo_operate_95 : decode b_Mo_operate 95 = .ok (.iload 5, 2) := by decide +kernel
theorem d_Mo_operate_97 : decode b_Mo_operate 97 = .ok (.iload 6, 2) := by decide +kernel
theorem d_Mo_operate_99 : decode b_Mo_operate 99 = .ok (.invokevirtual 250, 3) := by decide +kernel
theorem d_Mo_operate_102 : decode b_Mo_operate 102 = .ok (.aload_n 0, 1) := by decide +kernel
theorem d_Mo_operate_103 : decode b_Mo_operate 103 = .ok (.iload 4, 2) := by decide +kernel
theorem d_Mo_operate_105 : decode b_Mo_operate 105 = .ok (.iconst 0, 1) := by decide +kernel
theorem d_Mo_operate_106 : decode b_Mo_operate 106 = .ok (.iload 6, 2) := by decide +kernel
theorem d_Mo_operate_108 : decode b_Mo_operate 108 = .ok (.invokevirtual 250, 3) := by decide +kernel
theorem d_Mo_operate_111 : decode b_Mo_operate 111 = .ok (.invokevirtual 284, 3) := by decide +kernel
theorem d_Mo_operate_114 : decode b_Mo_operate 114 = .ok (.iinc 6 1, 3) := by decide +kernel
theorem d_Mo_operate_117 : decode b_Mo_operate 117 = .ok (.goto (-54), 3) := by decide +kernel
theorem d_Mo_operate_120 : decode b_Mo_operate 120 = .ok (.iinc 5 1, 3) := by decide +kernel
theorem d_Mo_operate_123 : decode b_Mo_operate 123 = .ok (.goto (-74), 3) := by decide +kernel
theorem d_Mo_operate_126 : decode b_Mo_operate 126 = .ok (.aload_n 0, 1) := by decide +kernel
theorem d_Mo_operate_127 : decode b_Mo_operate 127 = .ok (.getfield 50, 3) := by decide +kernel
theorem d_Mo_operate_130 : decode b_Mo_operate 130 = .ok (.iload_n 3, 1) := by decide +kernel
theorem d_Mo_operate_131 : decode b_Mo_operate 131 = .ok (.aload_n 0, 1) := by decide +kernel
theorem d_Mo_operate_132 : decode b_Mo_operate 132 = .ok (.getfield 50, 3) := by decide +kernel
theorem d_Mo_operate_135 : decode b_Mo_operate 135 = .ok (.iload 4, 2) := by decide +kernel
theorem d_Mo_operate_137 : decode b_Mo_operate 137 = .ok (.iaload, 1) := by decide +kernel
theorem d_Mo_operate_138 : decode b_Mo_operate 138 = .ok (.ifCond .le 12, 3) := by decide +kernel
theorem d_Mo_operate_141 : decode b_Mo_operate 141 = .ok (.aload_n 0, 1) := by decide +kernel
theorem d_Mo_operate_142 : decode b_Mo_operate 142 = .ok (.getfield 50, 3) := by decide +kernel
theorem d_Mo_operate_145 : decode b_Mo_operate 145 = .ok (.iload_n 3, 1) := by decide +kernel
theorem d_Mo_operate_146 : decode b_Mo_operate 146 = .ok (.iaload, 1) := by decide +kernel
theorem d_Mo_operate_147 : decode b_Mo_operate 147 = .ok (.goto 4, 3) := by decide +kernel
theorem d_Mo_operate_150 : decode b_Mo_operate 150 = .ok (.iconst 0, 1) := by decide +kernel
theorem d_Mo_operate_151 : decode b_Mo_operate 151 = .ok (.iastore, 1) := by decide +kernel
theorem d_Mo_operate_152 : decode b_Mo_operate 152 = .ok (.goto 30, 3) := by decide +kernel
theorem d_Mo_operate_155 : decode b_Mo_operate 155 = .ok (.aload_n 0, 1) := by decide +kernel
theorem d_Mo_operate_156 : decode b_Mo_operate 156 = .ok (.getfield 41, 3) := by decide +kernel
theorem d_Mo_operate_159 : decode b_Mo_operate 159 = .ok (.iload_n 3, 1) := by decide +kernel
theorem d_Mo_operate_160 : decode b_Mo_operate 160 = .ok (.iaload, 1) := by decide +kernel
theorem d_Mo_operate_161 : decode b_Mo_operate 161 = .ok (.ifCond .ne 14, 3) := by decide +kernel
theorem d_Mo_operate_164 : decode b_Mo_operate 164 = .ok (.aload_n 0, 1) := by decide +kernel
theorem d_Mo_operate_165 : decode b_Mo_operate 165 = .ok (.iload_n 1, 1) := by decide +kernel
theorem d_Mo_operate_166 : decode b_Mo_operate 166 = .ok (.iload_n 3, 1) := by decide +kernel
theorem d_Mo_operate_167 : decode b_Mo_operate 167 = .ok (.iload 4, 2) := by decide +kernel
theorem d_Mo_operate_169 : decode b_Mo_operate 169 = .ok (.invokevirtual 288, 3) := by decide +kernel
theorem d_Mo_operate_172 : decode b_Mo_operate 172 = .ok (.goto 10, 3) := by decide +kernel
theorem d_Mo_operate_175 : decode b_Mo_operate 175 = .ok (.aload_n 0, 1) := by decide +kernel
theorem d_Mo_operate_176 : decode b_Mo_operate 176 = .ok (.iconst 5, 1) := by decide +kernel
theorem d_Mo_operate_177 : decode b_Mo_operate 177 = .ok (.iload_n 2, 1) := by decide +kernel
theorem d_Mo_operate_178 : decode b_Mo_operate 178 = .ok (.invokevirtual 125, 3) := by decide +kernel
theorem d_Mo_operate_181 : decode b_Mo_operate 181 = .ok (.ireturn, 1) := by decide +kernel
theorem d_Mo_operate_182 : decode b_Mo_operate 182 = .ok (.aload_n 0, 1) := by decide +kernel
theorem d_Mo_operate_183 : decode b_Mo_operate 183 = .ok (.dup, 1) := by decide +kernel
theorem d_Mo_operate_184 : decode b_Mo_operate 184 = .ok (.getfield 253, 3) := by decide +kernel
theorem d_Mo_operate_187 : decode b_Mo_operate 187 = .ok (.iconst 1, 1) := by decide +kernel
theorem d_Mo_operate_188 : decode b_Mo_operate 188 = .ok (.isub, 1) := by decide +kernel
theorem d_Mo_operate_189 : decode b_Mo_operate 189 = .ok (.putfield 253, 3) := by decide +kernel
theorem d_Mo_operate_192 : decode b_Mo_operate 192 = .ok (.aload_n 0, 1) := by decide +kernel
theorem d_Mo_operate_193 : decode b_Mo_operate 193 = .ok (.iload_n 3, 1) := by decide +kernel
theorem d_Mo_operate_194 : decode b_Mo_operate 194 = .ok (.invokevirtual 273, 3) := by decide +kernel
theorem d_Mo_operate_197 : decode b_Mo_operate 197 = .ok (.iconst 1, 1) := by decide +kernel
theorem d_Mo_operate_198 : decode b_Mo_operate 198 = .ok (.ireturn, 1) := by decide +kernel
theorem d_Mo_meet_0 : decode b_Mo_meet 0 = .ok (.iconst 0, 1) := by decide +kernel
theorem d_Mo_meet_1 : decode b_Mo_meet 1 = .ok (.istore 4, 2) := by decide +kernel
theorem d_Mo_meet_3 : decode b_Mo_meet 3 = .ok (.iconst 0, 1) := by decide +kernel
theorem d_Mo_meet_4 : decode b_Mo_meet 4 = .ok (.istore 5, 2) := by decide +kernel
theorem d_Mo_meet_6 : decode b_Mo_meet 6 = .ok (.iload 5, 2) := by decide +kernel
theorem d_Mo_meet_8 : decode b_Mo_meet 8 = .ok (.aload_n 0, 1) := by decide +kernel
theorem d_Mo_meet_9 : decode b_Mo_meet 9 = .ok (.getfield 50, 3) := by decide +kernel
theorem d_Mo_meet_12 : decode b_Mo_meet 12 = .ok (.iload_n 2, 1) := by decide +kernel
theorem d_Mo_meet_13 : decode b_Mo_meet 13 = .ok (.iaload, 1) := by decide +kernel
theorem d_Mo_meet_14 : decode b_Mo_meet 14 = .ok (.if_icmp .ge 156, 3) := by decide +kernel
theorem d_Mo_meet_17 : decode b_Mo_meet 17 = .ok (.iconst 0, 1) := by decide +kernel
theorem d_Mo_meet_18 : decode b_Mo_meet 18 = .ok (.istore 6, 2) := by decide +kernel
theorem d_Mo_meet_20 : decode b_Mo_meet 20 = .ok (.iload 6, 2) := by decide +kernel
theorem d_Mo_meet_22 : decode b_Mo_meet 22 = .ok (.aload_n 0, 1) := by decide +kernel
theorem d_Mo_meet_23 : decode b_Mo_meet 23 = .ok (.getfield 50, 3) := by decide +kernel
theorem d_Mo_meet_26 : decode b_Mo_meet 26 = .ok (.iload_n 3, 1) := by decide +kernel
theorem d_Mo_meet_27 : decode b_Mo_meet 27 = .ok (.iaload, 1) := by decide +kernel
theorem d_Mo_meet_28 : decode b_Mo_meet 28 = .ok (.if_icmp .ge 43, 3) := by decide +kernel
theorem d_Mo_meet_31 : decode b_Mo_meet 31 = .ok (.aload_n 0, 1) := by decide +kernel
theorem d_Mo_meet_32 : decode b_Mo_meet 32 = .ok (.iload_n 2, 1) := by decide +kernel
theorem d_Mo_meet_33 : decode b_Mo_meet 33 = .ok (.aload_n 0, 1) := by decide +kernel
theorem d_Mo_meet_34 : decode b_Mo_meet 34 = .ok (.getfield 53, 3) := by decide +kernel
theorem d_Mo_meet_37 : decode b_Mo_meet 37 = .ok (.sipush 256, 3) := by decide +kernel
theorem d_Mo_meet_40 : decode b_Mo_meet 40 = .ok (.iload_n 2, 1) := by decide +kernel
theorem d_Mo_meet_41 : decode b_Mo_meet 41 = .ok (.imul, 1) := by decide +kernel
theorem d_Mo_meet_42 : decode b_Mo_meet 42 = .ok (.iload 5, 2) := by decide +kernel
theorem d_Mo_meet_44 : decode b_Mo_meet 44 = .ok (.iadd, 1) := by decide +kernel
theorem d_Mo_meet_45 : decode b_Mo_meet 45 = .ok (.iaload, 1) := by decide +kernel
theorem d_Mo_meet_46 : decode b_Mo_meet 46 = .ok (.aload_n 0, 1) := by decide +kernel
theorem d_Mo_meet_47 : decode b_Mo_meet 47 = .ok (.getfield 53, 3) := by decide +kernel
theorem d_Mo_meet_50 : decode b_Mo_meet 50 = .ok (.sipush 256, 3) := by decide +kernel
theorem d_Mo_meet_53 : decode b_Mo_meet 53 = .ok (.iload_n 3, 1) := by decide +kernel
theorem d_Mo_meet_54 : decode b_Mo_meet 54 = .ok (.imul, 1) := by decide +kernel
theorem d_Mo_meet_55 : decode b_Mo_meet 55 = .ok (.iload 6, 2) := by decide +kernel
theorem d_Mo_meet_57 : decode b_Mo_meet 57 = .ok (.iadd, 1) := by decide +kernel
theorem d_Mo_meet_58 : decode b_Mo_meet 58 = .ok (.iaload, 1) := by decide +kernel
theorem d_Mo_meet_59 : decode b_Mo_meet 59 = .ok (.invokevirtual 247, 3) := by decide +kernel
theorem d_Mo_meet_62 : decode b_Mo_meet 62 = .ok (.ifCond .eq 9, 3) := by decide +kernel
theorem d_Mo_meet_65 : decode b_Mo_meet 65 = .ok (.iinc 6 1, 3) := by decide +kernel
theorem d_Mo_meet_68 : decode b_Mo_meet 68 = .ok (.goto (-48), 3) := by decide +kernel
theorem d_Mo_meet_71 : decode b_Mo_meet 71 = .ok (.iload 6, 2) := by decide +kernel
theorem d_Mo_meet_73 : decode b_Mo_meet 73 = .ok (.aload_n 0, 1) := by decide +kernel
theorem d_Mo_meet_74 : decode b_Mo_meet 74 = .ok (.getfield 50, 3) := by decide +kernel
theorem d_Mo_meet_77 : decode b_Mo_meet 77 = .ok (.iload_n 3, 1) := by decide +kernel
theorem d_Mo_meet_78 : decode b_Mo_meet 78 = .ok (.iaload, 1) := by decide +kernel
theorem d_Mo_meet_79 : decode b_Mo_meet 79 = .ok (.if_icmp .ne 6, 3) := by decide +kernel
theorem d_Mo_meet_82 : decode b_Mo_meet 82 = .ok (.goto 82, 3) := by decide +kernel
theorem d_Mo_meet_85 : decode b_Mo_meet 85 = .ok (.iconst 0, 1) := by decide +kernel
theorem d_Mo_meet_86 : decode b_Mo_meet 86 = .ok (.istore 7, 2) := by decide +kernel
theorem d_Mo_meet_88 : decode b_Mo_meet 88 = .ok (.iload 7, 2) := by decide +kernel
theorem d_Mo_meet_90 : decode b_Mo_meet 90 = .ok (.aload_n 0, 1) := by decide +kernel
theorem d_Mo_meet_91 : decode b_Mo_meet 91 = .ok (.getfield 234, 3) := by decide +kernel
theorem d_Mo_meet_94 : decode b_Mo_meet 94 = .ok (.if_icmp .ge 41, 3) := by decide +kernel
theorem d_Mo_meet_97 : decode b_Mo_meet 97 = .ok (.aload_n 0, 1) := by decide +kernel
theorem d_Mo_meet_98 : decode b_Mo_meet 98 = .ok (.iload_n 1, 1) := by decide +kernel
theorem d_Mo_meet_99 : decode b_Mo_meet 99 = .ok (.aload_n 0, 1) := by decide +kernel
theorem d_Mo_meet_100 : decode b_Mo_meet 100 = .ok (.iload_n 2, 1) := by decide +kernel
theorem d_Mo_meet_101 : decode b_Mo_meet 101 = .ok (.iload 4, 2) := by decide +kernel
theorem d_Mo_meet_103 : decode b_Mo_meet 103 = .ok (.iload 7, 2) := by decide +kernel
theorem d_Mo_meet_105 : decode b_Mo_meet 105 = .ok (.invokevirtual 250, 3) := by decide +kernel
theorem d_Mo_meet_108 : decode b_Mo_meet 108 = .ok (.aload_n 0, 1) := by decide +kernel
theorem d_Mo_meet_109 : decode b_Mo_meet 109 = .ok (.iload_n 2, 1) := by decide +kernel
theorem d_Mo_meet_110 : decode b_Mo_meet 110 = .ok (.iload 5, 2) := by decide +kernel
theorem d_Mo_meet_112 : decode b_Mo_meet 112 = .ok (.iload 7, 2) := by decide +kernel
theorem d_Mo_meet_114 : decode b_Mo_meet 114 = .ok (.invokevirtual 250, 3) := by decide +kernel
theorem d_Mo_meet_117 : decode b_Mo_meet 117 = .ok (.aload_n 0, 1) := by decide +kernel
theorem d_Mo_meet_118 : decode b_Mo_meet 118 = .ok (.iload_n 3, 1) := by decide +kernel
theorem d_Mo_meet_119 : decode b_Mo_meet 119 = .ok (.iload 6, 2) := by decide +kernel
theorem d_Mo_meet_121 : decode b_Mo_meet 121 = .ok (.iload 7, 2) := by decide +kernel
theorem d_Mo_meet_123 : decode b_Mo_meet 123 = .ok (.invokevirtual 250, 3) := by decide +kernel
theorem d_Mo_meet_126 : decode b_Mo_meet 126 = .ok (.invokevirtual 284, 3) := by decide +kernel
theorem d_Mo_meet_129 : decode b_Mo_meet 129 = .ok (.iinc 7 1, 3) := by decide +kernel
theorem d_Mo_meet_132 : decode b_Mo_meet 132 = .ok (.goto (-44), 3) := by decide +kernel
theorem d_Mo_meet_135 : decode b_Mo_meet 135 = .ok (.aload_n 0, 1) := by decide +kernel
theorem d_Mo_meet_136 : decode b_Mo_meet 136 = .ok (.getfield 53, 3) := by decide +kernel
theorem d_Mo_meet_139 : decode b_Mo_meet 139 = .ok (.sipush 256, 3) := by decide +kernel
theorem d_Mo_meet_142 : decode b_Mo_meet 142 = .ok (.iload_n 2, 1) := by decide +kernel
theorem d_Mo_meet_143 : decode b_Mo_meet 143 = .ok (.imul, 1) := by decide +kernel
theorem d_Mo_meet_144 : decode b_Mo_meet 144 = .ok (.iload 4, 2) := by decide +kernel
theorem d_Mo_meet_146 : decode b_Mo_meet 146 = .ok (.iadd, 1) := by decide +kernel
theorem d_Mo_meet_147 : decode b_Mo_meet 147 = .ok (.aload_n 0, 1) := by decide +kernel
theorem d_Mo_meet_148 : decode b_Mo_meet 148 = .ok (.getfield 53, 3) := by decide +kernel
theorem d_Mo_meet_151 : decode b_Mo_meet 151 = .ok (.sipush 256, 3) := by decide +kernel
theorem d_Mo_meet_154 : decode b_Mo_meet 154 = .ok (.iload_n 2, 1) := by decide +kernel
theorem d_Mo_meet_155 : decode b_Mo_meet 155 = .ok (.imul, 1) := by decide +kernel
theorem d_Mo_meet_156 : decode b_Mo_meet 156 = .ok (.iload 5, 2) := by decide +kernel
theorem d_Mo_meet_158 : decode b_Mo_meet 158 = .ok (.iadd, 1) := by decide +kernel
theorem d_Mo_meet_159 : decode b_Mo_meet 159 = .ok (.iaload, 1) := by decide +kernel
theorem d_Mo_meet_160 : decode b_Mo_meet 160 = .ok (.iastore, 1) := by decide +kernel
theorem d_Mo_meet_161 : decode b_Mo_meet 161 = .ok (.iinc 4 1, 3) := by decide +kernel
theorem d_Mo_meet_164 : decode b_Mo_meet 164 = .ok (.iinc 5 1, 3) := by decide +kernel
theorem d_Mo_meet_167 : decode b_Mo_meet 167 = .ok (.goto (-161), 3) := by decide +kernel
theorem d_Mo_meet_170 : decode b_Mo_meet 170 = .ok (.aload_n 0, 1) := by decide +kernel
theorem d_Mo_meet_171 : decode b_Mo_meet 171 = .ok (.getfield 50, 3) := by decide +kernel
theorem d_Mo_meet_174 : decode b_Mo_meet 174 = .ok (.iload_n 2, 1) := by decide +kernel
theorem d_Mo_meet_175 : decode b_Mo_meet 175 = .ok (.iload 4, 2) := by decide +kernel
theorem d_Mo_meet_177 : decode b_Mo_meet 177 = .ok (.iastore, 1) := by decide +kernel
theorem d_Mo_meet_178 : decode b_Mo_meet 178 = .ok (.return_, 1) := by decide +kernel
theorem d_Mo_spread_0 : decode b_Mo_spread 0 = .ok (.aload_n 0, 1) := by decide +kernel
theorem d_Mo_spread_1 : decode b_Mo_spread 1 = .ok (.getfield 50, 3) := by decide +kernel
theorem d_Mo_spread_4 : decode b_Mo_spread 4 = .ok (.iload_n 2, 1) := by decide +kernel
theorem d_Mo_spread_5 : decode b_Mo_spread 5 = .ok (.iaload, 1) := by decide +kernel
theorem d_Mo_spread_6 : decode b_Mo_spread 6 = .ok (.ifCond .le 12, 3) := by decide +kernel
theorem d_Mo_spread_9 : decode b_Mo_spread 9 = .ok (.aload_n 0, 1) := by decide +kernel
theorem d_Mo_spread_10 : decode b_Mo_spread 10 = .ok (.getfield 50, 3) := by decide +kernel
theorem d_Mo_spread_13 : decode b_Mo_spread 13 = .ok (.iload_n 3, 1) := by decide +kernel
theorem d_Mo_spread_14 : decode b_Mo_spread 14 = .ok (.iaload, 1) := by decide +kernel
theorem d_Mo_spread_15 : decode b_Mo_spread 15 = .ok (.goto 4, 3) := by decide +kernel
theorem d_Mo_spread_18 : decode b_Mo_spread 18 = .ok (.iconst 0, 1) := by decide +kernel
theorem d_Mo_spread_19 : decode b_Mo_spread 19 = .ok (.istore 4, 2) := by decide +kernel
theorem d_Mo_spread_21 : decode b_Mo_spread 21 = .ok (.aload_n 0, 1) := by decide +kernel
theorem d_Mo_spread_22 : decode b_Mo_spread 22 = .ok (.iload_n 3, 1) := by decide +kernel
theorem d_Mo_spread_23 : decode b_Mo_spread 23 = .ok (.aload_n 0, 1) := by decide +kernel
theorem d_Mo_spread_24 : decode b_Mo_spread 24 = .ok (.getfield 50, 3) := by decide +kernel
theorem d_Mo_spread_27 : decode b_Mo_spread 27 = .ok (.iload_n 3, 1) := by decide +kernel
theorem d_Mo_spread_28 : decode b_Mo_spread 28 = .ok (.iaload, 1) := by decide +kernel
theorem d_Mo_spread_29 : decode b_Mo_spread 29 = .ok (.iconst 0, 1) := by decide +kernel
theorem d_Mo_spread_30 : decode b_Mo_spread 30 = .ok (.invokevirtual 250, 3) := by decide +kernel
theorem d_Mo_spread_33 : decode b_Mo_spread 33 = .ok (.istore 5, 2) := by decide +kernel
theorem d_Mo_spread_35 : decode b_Mo_spread 35 = .ok (.iconst 0, 1) := by decide +kernel
theorem d_Mo_spread_36 : decode b_Mo_spread 36 = .ok (.istore 6, 2) := by decide +kernel
theorem d_Mo_spread_38 : decode b_Mo_spread 38 = .ok (.iload 6, 2) := by decide +kernel
theorem d_Mo_spread_40 : decode b_Mo_spread 40 = .ok (.aload_n 0, 1) := by decide +kernel
theorem d_Mo_spread_41 : decode b_Mo_spread 41 = .ok (.getfield 234, 3) := by decide +kernel
theorem d_Mo_spread_44 : decode b_Mo_spread 44 = .ok (.if_icmp .ge 60, 3) := by decide +kernel
theorem d_Mo_spread_47 : decode b_Mo_spread 47 = .ok (.iload 4, 2) := by decide +kernel
theorem d_Mo_spread_49 : decode b_Mo_spread 49 = .ok (.ifCond .le 55, 3) := by decide +kernel
theorem d_Mo_spread_52 : decode b_Mo_spread 52 = .ok (.aload_n 0, 1) := by decide +kernel
theorem d_Mo_spread_53 : decode b_Mo_spread 53 = .ok (.getfield 57, 3) := by decide +kernel
theorem d_Mo_spread_56 : decode b_Mo_spread 56 = .ok (.iload 5, 2) := by decide +kernel
theorem d_Mo_spread_58 : decode b_Mo_spread 58 = .ok (.iload 6, 2) := by decide +kernel
theorem d_Mo_spread_60 : decode b_Mo_spread 60 = .ok (.iadd, 1) := by decide +kernel
theorem d_Mo_spread_61 : decode b_Mo_spread 61 = .ok (.aload_n 0, 1) := by decide +kernel
theorem d_Mo_spread_62 : decode b_Mo_spread 62 = .ok (.getfield 57, 3) := by decide +kernel
theorem d_Mo_spread_65 : decode b_Mo_spread 65 = .ok (.aload_n 0, 1) := by decide +kernel
theorem d_Mo_spread_66 : decode b_Mo_spread 66 = .ok (.iload_n 2, 1) := by decide +kernel
theorem d_Mo_spread_67 : decode b_Mo_spread 67 = .ok (.iconst 0, 1) := by decide +kernel
theorem d_Mo_spread_68 : decode b_Mo_spread 68 = .ok (.iload 6, 2) := by decide +kernel
theorem d_Mo_spread_70 : decode b_Mo_spread 70 = .ok (.invokevirtual 250, 3) := by decide +kernel
theorem d_Mo_spread_73 : decode b_Mo_spread 73 = .ok (.laload, 1) := by decide +kernel
theorem d_Mo_spread_74 : decode b_Mo_spread 74 = .ok (.lastore, 1) := by decide +kernel
theorem d_Mo_spread_75 : decode b_Mo_spread 75 = .ok (.aload_n 0, 1) := by decide +kernel
theorem d_Mo_spread_76 : decode b_Mo_spread 76 = .ok (.getfield 60, 3) := by decide +kernel
theorem d_Mo_spread_79 : decode b_Mo_spread 79 = .ok (.iload 5, 2) := by decide +kernel
theorem d_Mo_spread_81 : decode b_Mo_spread 81 = .ok (.iload 6, 2) := by decide +kernel
theorem d_Mo_spread_83 : decode b_Mo_spread 83 = .ok (.iadd, 1) := by decide +kernel
theorem d_Mo_spread_84 : decode b_Mo_spread 84 = .ok (.aload_n 0, 1) := by decide +kernel
theorem d_Mo_spread_85 : decode b_Mo_spread 85 = .ok (.getfield 60, 3) := by decide +kernel
theorem d_Mo_spread_88 : decode b_Mo_spread 88 = .ok (.aload_n 0, 1) := by decide +kernel
theorem d_Mo_spread_89 : decode b_Mo_spread 89 = .ok (.iload_n 2, 1) := by decide +kernel
theorem d_Mo_spread_90 : decode b_Mo_spread 90 = .ok (.iconst 0, 1) := by decide +kernel
theorem d_Mo_spread_91 : decode b_Mo_spread 91 = .ok (.iload 6, 2) := by decide +kernel
theorem d_Mo_spread_93 : decode b_Mo_spread 93 = .ok (.invokevirtual 250, 3) := by decide +kernel
theorem d_Mo_spread_96 : decode b_Mo_spread 96 = .ok (.baload, 1) := by decide +kernel
theorem d_Mo_spread_97 : decode b_Mo_spread 97 = .ok (.bastore, 1) := by decide +kernel
theorem d_Mo_spread_98 : decode b_Mo_spread 98 = .ok (.iinc 6 1, 3) := by decide +kernel
theorem d_Mo_spread_101 : decode b_Mo_spread 101 = .ok (.goto (-63), 3) := by decide +kernel
theorem d_Mo_spread_104 : decode b_Mo_spread 104 = .ok (.iconst 0, 1) := by decide +kernel
theorem d_Mo_spread_105 : decode b_Mo_spread 105 = .ok (.istore 6, 2) := by decide +kernel
theorem d_Mo_spread_107 : decode b_Mo_spread 107 = .ok (.iload 6, 2) := by decide +kernel
theorem d_Mo_spread_109 : decode b_Mo_spread 109 = .ok (.iload 4, 2) := by decide +kernel
theorem d_Mo_spread_111 : decode b_Mo_spread 111 = .ok (.if_icmp .ge 55, 3) := by decide +kernel
theorem d_Mo_spread_114 : decode b_Mo_spread 114 = .ok (.iconst 0, 1) := by decide +kernel
theorem d_Mo_spread_115 : decode b_Mo_spread 115 = .ok (.istore 7, 2) := by decide +kernel
theorem d_Mo_spread_117 : decode b_Mo_spread 117 = .ok (.iload 7, 2) := by decide +kernel
theorem d_Mo_spread_119 : decode b_Mo_spread 119 = .ok (.aload_n 0, 1) := by decide +kernel
theorem d_Mo_spread_120 : decode b_Mo_spread 120 = .ok (.getfield 234, 3) := by decide +kernel
theorem d_Mo_spread_123 : decode b_Mo_spread 123 = .ok (.if_icmp .ge 37, 3) := by decide +kernel
theorem d_Mo_spread_126 : decode b_Mo_spread 126 = .ok (.aload_n 0, 1) := by decide +kernel
theorem d_Mo_spread_127 : decode b_Mo_spread 127 = .ok (.iload_n 1, 1) := by decide +kernel
theorem d_Mo_spread_128 : decode b_Mo_spread 128 = .ok (.aload_n 0, 1) := by decide +kernel
theorem d_Mo_spread_129 : decode b_Mo_spread 129 = .ok (.iload_n 2, 1) := by decide +kernel
theorem d_Mo_spread_130 : decode b_Mo_spread 130 = .ok (.iload 6, 2) := by decide +kernel
theorem d_Mo_spread_132 : decode b_Mo_spread 132 = .ok (.iload 7, 2) := by decide +kernel
theorem d_Mo_spread_134 : decode b_Mo_spread 134 = .ok (.invokevirtual 250, 3) := by decide +kernel
theorem d_Mo_spread_137 : decode b_Mo_spread 137 = .ok (.iload 5, 2) := by decide +kernel
theorem d_Mo_spread_139 : decode b_Mo_spread 139 = .ok (.iload 7, 2) := by decide +kernel
theorem d_Mo_spread_141 : decode b_Mo_spread 141 = .ok (.iadd, 1) := by decide +kernel
theorem d_Mo_spread_142 : decode b_Mo_spread 142 = .ok (.aload_n 0, 1) := by decide +kernel
theorem d_Mo_spread_143 : decode b_Mo_spread 143 = .ok (.iload_n 3, 1) := by decide +kernel
theorem d_Mo_spread_144 : decode b_Mo_spread 144 = .ok (.iload 6, 2) := by decide +kernel
theorem d_Mo_spread_146 : decode b_Mo_spread 146 = .ok (.iload 7, 2) := by decide +kernel
theorem d_Mo_spread_148 : decode b_Mo_spread 148 = .ok (.invokevirtual 250, 3) := by decide +kernel
theorem d_Mo_spread_151 : decode b_Mo_spread 151 = .ok (.invokevirtual 284, 3) := by decide +kernel
theorem d_Mo_spread_154 : decode b_Mo_spread 154 = .ok (.iinc 7 1, 3) := by decide +kernel
theorem d_Mo_spread_157 : decode b_Mo_spread 157 = .ok (.goto (-40), 3) := by decide +kernel
theorem d_Mo_spread_160 : decode b_Mo_spread 160 = .ok (.iinc 6 1, 3) := by decide +kernel
theorem d_Mo_spread_163 : decode b_Mo_spread 163 = .ok (.goto (-56), 3) := by decide +kernel
theorem d_Mo_spread_166 : decode b_Mo_spread 166 = .ok (.iconst 0, 1) := by decide +kernel
theorem d_Mo_spread_167 : decode b_Mo_spread 167 = .ok (.istore 6, 2) := by decide +kernel
theorem d_Mo_spread_169 : decode b_Mo_spread 169 = .ok (.iload 6, 2) := by decide +kernel
theorem d_Mo_spread_171 : decode b_Mo_spread 171 = .ok (.iload 4, 2) := by decide +kernel
theorem d_Mo_spread_173 : decode b_Mo_spread 173 = .ok (.if_icmp .ge 35, 3) := by decide +kernel
theorem d_Mo_spread_176 : decode b_Mo_spread 176 = .ok (.aload_n 0, 1) := by decide +kernel
theorem d_Mo_spread_177 : decode b_Mo_spread 177 = .ok (.getfield 53, 3) := by decide +kernel
theorem d_Mo_spread_180 : decode b_Mo_spread 180 = .ok (.sipush 256, 3) := by decide +kernel
theorem d_Mo_spread_183 : decode b_Mo_spread 183 = .ok (.iload_n 2, 1) := by decide +kernel
theorem d_Mo_spread_184 : decode b_Mo_spread 184 = .ok (.imul, 1) := by decide +kernel
theorem d_Mo_spread_185 : decode b_Mo_spread 185 = .ok (.iload 6, 2) := by decide +kernel
theorem d_Mo_spread_187 : decode b_Mo_spread 187 = .ok (.iadd, 1) := by decide +kernel
theorem d_Mo_spread_188 : decode b_Mo_spread 188 = .ok (.aload_n 0, 1) := by decide +kernel
theorem d_Mo_spread_189 : decode b_Mo_spread 189 = .ok (.getfield 53, 3) := by decide +kernel
theorem d_Mo_spread_192 : decode b_Mo_spread 192 = .ok (.sipush 256, 3) := by decide +kernel
theorem d_Mo_spread_195 : decode b_Mo_spread 195 = .ok (.iload_n 3, 1) := by decide +kernel
theorem d_Mo_spread_196 : decode b_Mo_spread 196 = .ok (.imul, 1) := by decide +kernel
theorem d_Mo_spread_197 : decode b_Mo_spread 197 = .ok (.iload 6, 2) := by decide +kernel
theorem d_Mo_spread_199 : decode b_Mo_spread 199 = .ok (.iadd, 1) := by decide +kernel
theorem d_Mo_spread_200 : decode b_Mo_spread 200 = .ok (.iaload, 1) := by decide +kernel
theorem d_Mo_spread_201 : decode b_Mo_spread 201 = .ok (.iastore, 1) := by decide +kernel
theorem d_Mo_spread_202 : decode b_Mo_spread 202 = .ok (.iinc 6 1, 3) := by decide +kernel
theorem d_Mo_spread_205 : decode b_Mo_spread 205 = .ok (.goto (-36), 3) := by decide +kernel
theorem d_Mo_spread_208 : decode b_Mo_spread 208 = .ok (.aload_n 0, 1) := by decide +kernel
theorem d_Mo_spread_209 : decode b_Mo_spread 209 = .ok (.getfield 50, 3) := by decide +kernel
theorem d_Mo_spread_212 : decode b_Mo_spread 212 = .ok (.iload_n 2, 1) := by decide +kernel
theorem d_Mo_spread_213 : decode b_Mo_spread 213 = .ok (.iload 4, 2) := by decide +kernel
theorem d_Mo_spread_215 : decode b_Mo_spread 215 = .ok (.iastore, 1) := by decide +kernel
theorem d_Mo_spread_216 : decode b_Mo_spread 216 = .ok (.aload_n 0, 1) := by decide +kernel
theorem d_Mo_spread_217 : decode b_Mo_spread 217 = .ok (.getfield 41, 3) := by decide +kernel
theorem d_Mo_spread_220 : decode b_Mo_spread 220 = .ok (.iload_n 2, 1) := by decide +kernel
theorem d_Mo_spread_221 : decode b_Mo_spread 221 = .ok (.aload_n 0, 1) := by decide +kernel
theorem d_Mo_spread_222 : decode b_Mo_spread 222 = .ok (.getfield 41, 3) := by decide +kernel
theorem d_Mo_spread_225 : decode b_Mo_spread 225 = .ok (.iload_n 3, 1) := by decide +kernel
theorem d_Mo_spread_226 : decode b_Mo_spread 226 = .ok (.iaload, 1) := by decide +kernel
theorem d_Mo_spread_227 : decode b_Mo_spread 227 = .ok (.iastore, 1) := by decide +kernel
theorem d_Mo_spread_228 : decode b_Mo_spread 228 = .ok (.iconst 0, 1) := by decide +kernel
theorem d_Mo_spread_229 : decode b_Mo_spread 229 = .ok (.istore 6, 2) := by decide +kernel
theorem d_Mo_spread_231 : decode b_Mo_spread 231 = .ok (.iload 6, 2) := by decide +kernel
theorem d_Mo_spread_233 : decode b_Mo_spread 233 = .ok (.bipush 6, 2) := by decide +kernel
theorem d_Mo_spread_235 : decode b_Mo_spread 235 = .ok (.if_icmp .ge 57, 3) := by decide +kernel
theorem d_Mo_spread_238 : decode b_Mo_spread 238 = .ok (.aload_n 0, 1) := by decide +kernel
theorem d_Mo_spread_239 : decode b_Mo_spread 239 = .ok (.getfield 44, 3) := by decide +kernel
theorem d_Mo_spread_242 : decode b_Mo_spread 242 = .ok (.bipush 6, 2) := by decide +kernel
theorem d_Mo_spread_244 : decode b_Mo_spread 244 = .ok (.iload_n 2, 1) := by decide +kernel
theorem d_Mo_spread_245 : decode b_Mo_spread 245 = .ok (.imul, 1) := by decide +kernel
theorem d_Mo_spread_246 : decode b_Mo_spread 246 = .ok (.iload 6, 2) := by decide +kernel
theorem d_Mo_spread_248 : decode b_Mo_spread 248 = .ok (.iadd, 1) := by decide +kernel
theorem d_Mo_spread_249 : decode b_Mo_spread 249 = .ok (.aload_n 0, 1) := by decide +kernel
theorem d_Mo_spread_250 : decode b_Mo_spread 250 = .ok (.getfield 44, 3) := by decide +kernel
theorem d_Mo_spread_253 : decode b_Mo_spread 253 = .ok (.bipush 6, 2) := by decide +kernel
theorem d_Mo_spread_255 : decode b_Mo_spread 255 = .ok (.iload_n 3, 1) := by decide +kernel
theorem d_Mo_spread_256 : decode b_Mo_spread 256 = .ok (.imul, 1) := by decide +kernel
theorem d_Mo_spread_257 : decode b_Mo_spread 257 = .ok (.iload 6, 2) := by decide +kernel
theorem d_Mo_spread_259 : decode b_Mo_spread 259 = .ok (.iadd, 1) := by decide +kernel
theorem d_Mo_spread_260 : decode b_Mo_spread 260 = .ok (.iaload, 1) := by decide +kernel
theorem d_Mo_spread_261 : decode b_Mo_spread 261 = .ok (.iastore, 1) := by decide +kernel
theorem d_Mo_spread_262 : decode b_Mo_spread 262 = .ok (.aload_n 0, 1) := by decide +kernel
theorem d_Mo_spread_263 : decode b_Mo_spread 263 = .ok (.getfield 47, 3) := by decide +kernel
theorem d_Mo_spread_266 : decode b_Mo_spread 266 = .ok (.bipush 6, 2) := by decide +kernel
theorem d_Mo_spread_268 : decode b_Mo_spread 268 = .ok (.iload_n 2, 1) := by decide +kernel
theorem d_Mo_spread_269 : decode b_Mo_spread 269 = .ok (.imul, 1) := by decide +kernel
theorem d_Mo_spread_270 : decode b_Mo_spread 270 = .ok (.iload 6, 2) := by decide +kernel
theorem d_Mo_spread_272 : decode b_Mo_spread 272 = .ok (.iadd, 1) := by decide +kernel
theorem d_Mo_spread_273 : decode b_Mo_spread 273 = .ok (.aload_n 0, 1) := by decide +kernel
theorem d_Mo_spread_274 : decode b_Mo_spread 274 = .ok (.getfield 47, 3) := by decide +kernel
theorem d_Mo_spread_277 : decode b_Mo_spread 277 = .ok (.bipush 6, 2) := by decide +kernel
theorem d_Mo_spread_279 : decode b_Mo_spread 279 = .ok (.iload_n 3, 1) := by decide +kernel
theorem d_Mo_spread_280 : decode b_Mo_spread 280 = .ok (.imul, 1) := by decide +kernel
theorem d_Mo_spread_281 : decode b_Mo_spread 281 = .ok (.iload 6, 2) := by decide +kernel
theorem d_Mo_spread_283 : decode b_Mo_spread 283 = .ok (.iadd, 1) := by decide +kernel
theorem d_Mo_spread_284 : decode b_Mo_spread 284 = .ok (.iaload, 1) := by decide +kernel
theorem d_Mo_spread_285 : decode b_Mo_spread 285 = .ok (.iastore, 1) := by decide +kernel
theorem d_Mo_spread_286 : decode b_Mo_spread 286 = .ok (.iinc 6 1, 3) := by decide +kernel
theorem d_Mo_spread_289 : decode b_Mo_spread 289 = .ok (.goto (-58), 3) := by decide +kernel
theorem d_Mo_spread_292 : decode b_Mo_spread 292 = .ok (.return_, 1) := by decide +kernel
theorem d_Mo_negate_0 : decode b_Mo_negate 0 = .ok (.aload_n 0, 1) := by decide +kernel
theorem d_Mo_negate_1 : decode b_Mo_negate 1 = .ok (.getfield 253, 3) := by decide +kernel
theorem d_Mo_negate_4 : decode b_Mo_negate 4 = .ok (.iconst 1, 1) := by decide +kernel
theorem d_Mo_negate_5 : decode b_Mo_negate 5 = .ok (.isub, 1) := by decide +kernel
theorem d_Mo_negate_6 : decode b_Mo_negate 6 = .ok (.istore_n 1, 1) := by decide +kernel
theorem d_Mo_negate_7 : decode b_Mo_negate 7 = .ok (.iconst 0, 1) := by decide +kernel
theorem d_Mo_negate_8 : decode b_Mo_negate 8 = .ok (.istore_n 2, 1) := by decide +kernel
theorem d_Mo_negate_9 : decode b_Mo_negate 9 = .ok (.iload_n 2, 1) := by decide +kernel
theorem d_Mo_negate_10 : decode b_Mo_negate 10 = .ok (.aload_n 0, 1) := by decide +kernel
theorem d_Mo_negate_11 : decode b_Mo_negate 11 = .ok (.getfield 50, 3) := by decide +kernel
theorem d_Mo_negate_14 : decode b_Mo_negate 14 = .ok (.iload_n 1, 1) := by decide +kernel
theorem d_Mo_negate_15 : decode b_Mo_negate 15 = .ok (.iaload, 1) := by decide +kernel
theorem d_Mo_negate_16 : decode b_Mo_negate 16 = .ok (.if_icmp .ge 50, 3) := by decide +kernel
theorem d_Mo_negate_19 : decode b_Mo_negate 19 = .ok (.iconst 0, 1) := by decide +kernel
theorem d_Mo_negate_20 : decode b_Mo_negate 20 = .ok (.istore_n 3, 1) := by decide +kernel
theorem d_Mo_negate_21 : decode b_Mo_negate 21 = .ok (.iload_n 3, 1) := by decide +kernel
theorem d_Mo_negate_22 : decode b_Mo_negate 22 = .ok (.aload_n 0, 1) := by decide +kernel
theorem d_Mo_negate_23 : decode b_Mo_negate 23 = .ok (.getfield 234, 3) := by decide +kernel
theorem d_Mo_negate_26 : decode b_Mo_negate 26 = .ok (.if_icmp .ge 34, 3) := by decide +kernel
theorem d_Mo_negate_29 : decode b_Mo_negate 29 = .ok (.aload_n 0, 1) := by decide +kernel
theorem d_Mo_negate_30 : decode b_Mo_negate 30 = .ok (.getfield 57, 3) := by decide +kernel
theorem d_Mo_negate_33 : decode b_Mo_negate 33 = .ok (.aload_n 0, 1) := by decide +kernel
theorem d_Mo_negate_34 : decode b_Mo_negate 34 = .ok (.iload_n 1, 1) := by decide +kernel
theorem d_Mo_negate_35 : decode b_Mo_negate 35 = .ok (.iload_n 2, 1) := by decide +kernel
theorem d_Mo_negate_36 : decode b_Mo_negate 36 = .ok (.iload_n 3, 1) := by decide +kernel
theorem d_Mo_negate_37 : decode b_Mo_negate 37 = .ok (.invokevirtual 250, 3) := by decide +kernel
theorem d_Mo_negate_40 : decode b_Mo_negate 40 = .ok (.aload_n 0, 1) := by decide +kernel
theorem d_Mo_negate_41 : decode b_Mo_negate 41 = .ok (.getfield 57, 3) := by decide +kernel
theorem d_Mo_negate_44 : decode b_Mo_negate 44 = .ok (.aload_n 0, 1) := by decide +kernel
theorem d_Mo_negate_45 : decode b_Mo_negate 45 = .ok (.iload_n 1, 1) := by decide +kernel
theorem d_Mo_negate_46 : decode b_Mo_negate 46 = .ok (.iload_n 2, 1) := by decide +kernel
theorem d_Mo_negate_47 : decode b_Mo_negate 47 = .ok (.iload_n 3, 1) := by decide +kernel
theorem d_Mo_negate_48 : decode b_Mo_negate 48 = .ok (.invokevirtual 250, 3) := by decide +kernel
theorem d_Mo_negate_51 : decode b_Mo_negate 51 = .ok (.laload, 1) := by decide +kernel
theorem d_Mo_negate_52 : decode b_Mo_negate 52 = .ok (.lneg, 1) := by decide +kernel
theorem d_Mo_negate_53 : decode b_Mo_negate 53 = .ok (.lastore, 1) := by decide +kernel
theorem d_Mo_negate_54 : decode b_Mo_negate 54 = .ok (.iinc 3 1, 3) := by decide +kernel
theorem d_Mo_negate_57 : decode b_Mo_negate 57 = .ok (.goto (-36), 3) := by decide +kernel
theorem d_Mo_negate_60 : decode b_Mo_negate 60 = .ok (.iinc 2 1, 3) := by decide +kernel
theorem d_Mo_negate_63 : decode b_Mo_negate 63 = .ok (.goto (-54), 3) := by decide +kernel
theorem d_Mo_negate_66 : decode b_Mo_negate 66 = .ok (.return_, 1) := by decide +kernel
theorem d_Mo_rank_0 : decode b_Mo_rank 0 = .ok (.iload_n 0, 1) := by decide +kernel
theorem d_Mo_rank_1 : decode b_Mo_rank 1 = .ok (.bipush 43, 2) := by decide +kernel
theorem d_Mo_rank_3 : decode b_Mo_rank 3 = .ok (.if_icmp .eq 9, 3) := by decide +kernel
theorem d_Mo_rank_6 : decode b_Mo_rank 6 = .ok (.iload_n 0, 1) := by decide +kernel
theorem d_Mo_rank_7 : decode b_Mo_rank 7 = .ok (.bipush 45, 2) := by decide +kernel
theorem d_Mo_rank_9 : decode b_Mo_rank 9 = .ok (.if_icmp .ne 7, 3) := by decide +kernel
theorem d_Mo_rank_12 : decode b_Mo_rank 12 = .ok (.iconst 1, 1) := by decide +kernel
theorem d_Mo_rank_13 : decode b_Mo_rank 13 = .ok (.goto 36, 3) := by decide +kernel
theorem d_Mo_rank_16 : decode b_Mo_rank 16 = .ok (.iload_n 0, 1) := by decide +kernel
theorem d_Mo_rank_17 : decode b_Mo_rank 17 = .ok (.bipush 42, 2) := by decide +kernel
theorem d_Mo_rank_19 : decode b_Mo_rank 19 = .ok (.if_icmp .eq 15, 3) := by decide +kernel
theorem d_Mo_rank_22 : decode b_Mo_rank 22 = .ok (.iload_n 0, 1) := by decide +kernel
theorem d_Mo_rank_23 : decode b_Mo_rank 23 = .ok (.bipush 47, 2) := by decide +kernel
theorem d_Mo_rank_25 : decode b_Mo_rank 25 = .ok (.if_icmp .eq 9, 3) := by decide +kernel
theorem d_Mo_rank_28 : decode b_Mo_rank 28 = .ok (.iload_n 0, 1) := by decide +kernel
theorem d_Mo_rank_29 : decode b_Mo_rank 29 = .ok (.bipush 37, 2) := by decide +kernel
theorem d_Mo_rank_31 : decode b_Mo_rank 31 = .ok (.if_icmp .ne 7, 3) := by decide +kernel
theorem d_Mo_rank_34 : decode b_Mo_rank 34 = .ok (.iconst 2, 1) := by decide +kernel
theorem d_Mo_rank_35 : decode b_Mo_rank 35 = .ok (.goto 14, 3) := by decide +kernel
theorem d_Mo_rank_38 : decode b_Mo_rank 38 = .ok (.iload_n 0, 1) := by decide +kernel
theorem d_Mo_rank_39 : decode b_Mo_rank 39 = .ok (.bipush 109, 2) := by decide +kernel
theorem d_Mo_rank_41 : decode b_Mo_rank 41 = .ok (.if_icmp .ne 7, 3) := by decide +kernel
theorem d_Mo_rank_44 : decode b_Mo_rank 44 = .ok (.iconst 3, 1) := by decide +kernel
theorem d_Mo_rank_45 : decode b_Mo_rank 45 = .ok (.goto 4, 3) := by decide +kernel
theorem d_Mo_rank_48 : decode b_Mo_rank 48 = .ok (.iconst 0, 1) := by decide +kernel
theorem d_Mo_rank_49 : decode b_Mo_rank 49 = .ok (.ireturn, 1) := by decide +kernel
theorem d_Mo_opens_0 : decode b_Mo_opens 0 = .ok (.aload_n 0, 1) := by decide +kernel
theorem d_Mo_opens_1 : decode b_Mo_opens 1 = .ok (.getfield 291, 3) := by decide +kernel
theorem d_Mo_opens_4 : decode b_Mo_opens 4 = .ok (.bipush 8, 2) := by decide +kernel
theorem d_Mo_opens_6 : decode b_Mo_opens 6 = .ok (.if_icmp .ne 13, 3) := by decide +kernel
theorem d_Mo_opens_9 : decode b_Mo_opens 9 = .ok (.aload_n 0, 1) := by decide +kernel
theorem d_Mo_opens_10 : decode b_Mo_opens 10 = .ok (.iconst 3, 1) := by decide +kernel
theorem d_Mo_opens_11 : decode b_Mo_opens 11 = .ok (.aload_n 0, 1) := by decide +kernel
theorem d_Mo_opens_12 : decode b_Mo_opens 12 = .ok (.getfield 195, 3) := by decide +kernel
theorem d_Mo_opens_15 : decode b_Mo_opens 15 = .ok (.invokevirtual 125, 3) := by decide +kernel
theorem d_Mo_opens_18 : decode b_Mo_opens 18 = .ok (.ireturn, 1) := by decide +kernel
theorem d_Mo_opens_19 : decode b_Mo_opens 19 = .ok (.aload_n 0, 1) := by decide +kernel
theorem d_Mo_opens_20 : decode b_Mo_opens 20 = .ok (.dup, 1) := by decide +kernel
theorem d_Mo_opens_21 : decode b_Mo_opens 21 = .ok (.getfield 291, 3) := by decide +kernel
theorem d_Mo_opens_24 : decode b_Mo_opens 24 = .ok (.iconst 1, 1) := by decide +kernel
theorem d_Mo_opens_25 : decode b_Mo_opens 25 = .ok (.iadd, 1) := by decide +kernel
theorem d_Mo_opens_26 : decode b_Mo_opens 26 = .ok (.putfield 291, 3) := by decide +kernel
theorem d_Mo_opens_29 : decode b_Mo_opens 29 = .ok (.aload_n 0, 1) := by decide +kernel
theorem d_Mo_opens_30 : decode b_Mo_opens 30 = .ok (.getfield 82, 3) := by decide +kernel
theorem d_Mo_opens_33 : decode b_Mo_opens 33 = .ok (.aload_n 0, 1) := by decide +kernel
theorem d_Mo_opens_34 : decode b_Mo_opens 34 = .ok (.getfield 294, 3) := by decide +kernel
theorem d_Mo_opens_37 : decode b_Mo_opens 37 = .ok (.iload_n 1, 1) := by decide +kernel
theorem d_Mo_opens_38 : decode b_Mo_opens 38 = .ok (.iastore, 1) := by decide +kernel
theorem d_Mo_opens_39 : decode b_Mo_opens 39 = .ok (.aload_n 0, 1) := by decide +kernel
theorem d_Mo_opens_40 : decode b_Mo_opens 40 = .ok (.getfield 85, 3) := by decide +kernel
theorem d_Mo_opens_43 : decode b_Mo_opens 43 = .ok (.aload_n 0, 1) := by decide +kernel
theorem d_Mo_opens_44 : decode b_Mo_opens 44 = .ok (.getfield 294, 3) := by decide +kernel
theorem d_Mo_opens_47 : decode b_Mo_opens 47 = .ok (.aload_n 0, 1) := by decide +kernel
theorem d_Mo_opens_48 : decode b_Mo_opens 48 = .ok (.getfield 195, 3) := by decide +kernel
theorem d_Mo_opens_51 : decode b_Mo_opens 51 = .ok (.iastore, 1) := by decide +kernel
theorem d_Mo_opens_52 : decode b_Mo_opens 52 = .ok (.aload_n 0, 1) := by decide +kernel
theorem d_Mo_opens_53 : decode b_Mo_opens 53 = .ok (.dup, 1) := by decide +kernel
theorem d_Mo_opens_54 : decode b_Mo_opens 54 = .ok (.getfield 294, 3) := by decide +kernel
theorem d_Mo_opens_57 : decode b_Mo_opens 57 = .ok (.iconst 1, 1) := by decide +kernel
theorem d_Mo_opens_58 : decode b_Mo_opens 58 = .ok (.iadd, 1) := by decide +kernel
theorem d_Mo_opens_59 : decode b_Mo_opens 59 = .ok (.putfield 294, 3) := by decide +kernel
theorem d_Mo_opens_62 : decode b_Mo_opens 62 = .ok (.aload_n 0, 1) := by decide +kernel
theorem d_Mo_opens_63 : decode b_Mo_opens 63 = .ok (.invokevirtual 223, 3) := by decide +kernel
theorem d_Mo_opens_66 : decode b_Mo_opens 66 = .ok (.ireturn, 1) := by decide +kernel
theorem d_Mo_done_0 : decode b_Mo_done 0 = .ok (.aload_n 0, 1) := by decide +kernel
theorem d_Mo_done_1 : decode b_Mo_done 1 = .ok (.dup, 1) := by decide +kernel
theorem d_Mo_done_2 : decode b_Mo_done 2 = .ok (.getfield 294, 3) := by decide +kernel
theorem d_Mo_done_5 : decode b_Mo_done 5 = .ok (.iconst 1, 1) := by decide +kernel
theorem d_Mo_done_6 : decode b_Mo_done 6 = .ok (.isub, 1) := by decide +kernel
theorem d_Mo_done_7 : decode b_Mo_done 7 = .ok (.putfield 294, 3) := by decide +kernel
theorem d_Mo_done_10 : decode b_Mo_done 10 = .ok (.aload_n 0, 1) := by decide +kernel
theorem d_Mo_done_11 : decode b_Mo_done 11 = .ok (.getfield 82, 3) := by decide +kernel
theorem d_Mo_done_14 : decode b_Mo_done 14 = .ok (.aload_n 0, 1) := by decide +kernel
theorem d_Mo_done_15 : decode b_Mo_done 15 = .ok (.getfield 294, 3) := by decide +kernel
theorem d_Mo_done_18 : decode b_Mo_done 18 = .ok (.iaload, 1) := by decide +kernel
theorem d_Mo_done_19 : decode b_Mo_done 19 = .ok (.istore_n 1, 1) := by decide +kernel
theorem d_Mo_done_20 : decode b_Mo_done 20 = .ok (.aload_n 0, 1) := by decide +kernel
theorem d_Mo_done_21 : decode b_Mo_done 21 = .ok (.dup, 1) := by decide +kernel
theorem d_Mo_done_22 : decode b_Mo_done 22 = .ok (.getfield 291, 3) := by decide +kernel
theorem d_Mo_done_25 : decode b_Mo_done 25 = .ok (.iload_n 1, 1) := by decide +kernel
theorem d_Mo_done_26 : decode b_Mo_done 26 = .ok (.bipush 109, 2) := by decide +kernel
theorem d_Mo_done_28 : decode b_Mo_done 28 = .ok (.if_icmp .ne 7, 3) := by decide +kernel
theorem d_Mo_done_31 : decode b_Mo_done 31 = .ok (.iconst 1, 1) := by decide +kernel
theorem d_Mo_done_32 : decode b_Mo_done 32 = .ok (.goto 4, 3) := by decide +kernel
theorem d_Mo_done_35 : decode b_Mo_done 35 = .ok (.iconst 0, 1) := by decide +kernel
theorem d_Mo_done_36 : decode b_Mo_done 36 = .ok (.isub, 1) := by decide +kernel
theorem d_Mo_done_37 : decode b_Mo_done 37 = .ok (.putfield 291, 3) := by decide +kernel
theorem d_Mo_done_40 : decode b_Mo_done 40 = .ok (.aload_n 0, 1) := by decide +kernel
theorem d_Mo_done_41 : decode b_Mo_done 41 = .ok (.getfield 297, 3) := by decide +kernel
theorem d_Mo_done_44 : decode b_Mo_done 44 = .ok (.ifCond .ne 5, 3) := by decide +kernel
theorem d_Mo_done_47 : decode b_Mo_done 47 = .ok (.iconst 1, 1) := by decide +kernel
theorem d_Mo_done_48 : decode b_Mo_done 48 = .ok (.ireturn, 1) := by decide +kernel
theorem d_Mo_done_49 : decode b_Mo_done 49 = .ok (.iload_n 1, 1) := by decide +kernel
theorem d_Mo_done_50 : decode b_Mo_done 50 = .ok (.bipush 109, 2) := by decide +kernel
theorem d_Mo_done_52 : decode b_Mo_done 52 = .ok (.if_icmp .ne 9, 3) := by decide +kernel
theorem d_Mo_done_55 : decode b_Mo_done 55 = .ok (.aload_n 0, 1) := by decide +kernel
theorem d_Mo_done_56 : decode b_Mo_done 56 = .ok (.invokevirtual 301, 3) := by decide +kernel
theorem d_Mo_done_59 : decode b_Mo_done 59 = .ok (.iconst 1, 1) := by decide +kernel
theorem d_Mo_done_60 : decode b_Mo_done 60 = .ok (.ireturn, 1) := by decide +kernel
theorem d_Mo_done_61 : decode b_Mo_done 61 = .ok (.aload_n 0, 1) := by decide +kernel
theorem d_Mo_done_62 : decode b_Mo_done 62 = .ok (.iload_n 1, 1) := by decide +kernel
theorem d_Mo_done_63 : decode b_Mo_done 63 = .ok (.aload_n 0, 1) := by decide +kernel
theorem d_Mo_done_64 : decode b_Mo_done 64 = .ok (.getfield 85, 3) := by decide +kernel
theorem d_Mo_done_67 : decode b_Mo_done 67 = .ok (.aload_n 0, 1) := by decide +kernel
theorem d_Mo_done_68 : decode b_Mo_done 68 = .ok (.getfield 294, 3) := by decide +kernel
theorem d_Mo_done_71 : decode b_Mo_done 71 = .ok (.iaload, 1) := by decide +kernel
theorem d_Mo_done_72 : decode b_Mo_done 72 = .ok (.invokevirtual 304, 3) := by decide +kernel
theorem d_Mo_done_75 : decode b_Mo_done 75 = .ok (.ireturn, 1) := by decide +kernel
theorem d_Mo_doneTo_0 : decode b_Mo_doneTo 0 = .ok (.iconst 1, 1) := by decide +kernel
theorem d_Mo_doneTo_1 : decode b_Mo_doneTo 1 = .ok (.istore_n 2, 1) := by decide +kernel
theorem d_Mo_doneTo_2 : decode b_Mo_doneTo 2 = .ok (.iload_n 2, 1) := by decide +kernel
theorem d_Mo_doneTo_3 : decode b_Mo_doneTo 3 = .ok (.ifCond .eq 36, 3) := by decide +kernel
theorem d_Mo_doneTo_6 : decode b_Mo_doneTo 6 = .ok (.aload_n 0, 1) := by decide +kernel
theorem d_Mo_doneTo_7 : decode b_Mo_doneTo 7 = .ok (.getfield 294, 3) := by decide +kernel
theorem d_Mo_doneTo_10 : decode b_Mo_doneTo 10 = .ok (.ifCond .le 29, 3) := by decide +kernel
theorem d_Mo_doneTo_13 : decode b_Mo_doneTo 13 = .ok (.aload_n 0, 1) := by decide +kernel
theorem d_Mo_doneTo_14 : decode b_Mo_doneTo 14 = .ok (.getfield 82, 3) := by decide +kernel
theorem d_Mo_doneTo_17 : decode b_Mo_doneTo 17 = .ok (.aload_n 0, 1) := by decide +kernel
theorem d_Mo_doneTo_18 : decode b_Mo_doneTo 18 = .ok (.getfield 294, 3) := by decide +kernel
theorem d_Mo_doneTo_21 : decode b_Mo_doneTo 21 = .ok (.iconst 1, 1) := by decide +kernel
theorem d_Mo_doneTo_22 : decode b_Mo_doneTo 22 = .ok (.isub, 1) := by decide +kernel
theorem d_Mo_doneTo_23 : decode b_Mo_doneTo 23 = .ok (.iaload, 1) := by decide +kernel
theorem d_Mo_doneTo_24 : decode b_Mo_doneTo 24 = .ok (.invokestatic 307, 3) := by decide +kernel
theorem d_Mo_doneTo_27 : decode b_Mo_doneTo 27 = .ok (.iload_n 1, 1) := by decide +kernel
theorem d_Mo_doneTo_28 : decode b_Mo_doneTo 28 = .ok (.if_icmp .lt 11, 3) := by decide +kernel
theorem d_Mo_doneTo_31 : decode b_Mo_doneTo 31 = .ok (.aload_n 0, 1) := by decide +kernel
theorem d_Mo_doneTo_32 : decode b_Mo_doneTo 32 = .ok (.invokevirtual 310, 3) := by decide +kernel
theorem d_Mo_doneTo_35 : decode b_Mo_doneTo 35 = .ok (.istore_n 2, 1) := by decide +kernel
theorem d_Mo_doneTo_36 : decode b_Mo_doneTo 36 = .ok (.goto (-34), 3) := by decide +kernel
theorem d_Mo_doneTo_39 : decode b_Mo_doneTo 39 = .ok (.iload_n 2, 1) := by decide +kernel
theorem d_Mo_doneTo_40 : decode b_Mo_doneTo 40 = .ok (.ireturn, 1) := by decide +kernel
theorem d_Mo_by_0 : decode b_Mo_by 0 = .ok (.aload_n 0, 1) := by decide +kernel
theorem d_Mo_by_1 : decode b_Mo_by 1 = .ok (.getfield 253, 3) := by decide +kernel
theorem d_Mo_by_4 : decode b_Mo_by 4 = .ok (.istore_n 1, 1) := by decide +kernel
theorem d_Mo_by_5 : decode b_Mo_by 5 = .ok (.aload_n 0, 1) := by decide +kernel
theorem d_Mo_by_6 : decode b_Mo_by 6 = .ok (.invokevirtual 223, 3) := by decide +kernel
theorem d_Mo_by_9 : decode b_Mo_by 9 = .ok (.ifCond .eq 12, 3) := by decide +kernel
theorem d_Mo_by_12 : decode b_Mo_by 12 = .ok (.aload_n 0, 1) := by decide +kernel
theorem d_Mo_by_13 : decode b_Mo_by 13 = .ok (.bipush 40, 2) := by decide +kernel
theorem d_Mo_by_15 : decode b_Mo_by 15 = .ok (.invokevirtual 313, 3) := by decide +kernel
theorem d_Mo_by_18 : decode b_Mo_by 18 = .ok (.ifCond .ne 5, 3) := by decide +kernel
theorem d_Mo_by_21 : decode b_Mo_by 21 = .ok (.iconst 0, 1) := by decide +kernel
theorem d_Mo_by_22 : decode b_Mo_by 22 = .ok (.ireturn, 1) := by decide +kernel
theorem d_Mo_by_23 : decode b_Mo_by 23 = .ok (.iconst 1, 1) := by decide +kernel
theorem d_Mo_by_24 : decode b_Mo_by 24 = .ok (.istore_n 2, 1) := by decide +kernel
theorem d_Mo_by_25 : decode b_Mo_by 25 = .ok (.iload_n 2, 1) := by decide +kernel
theorem d_Mo_by_26 : decode b_Mo_by 26 = .ok (.ifCond .eq 283, 3) := by decide +kernel
theorem d_Mo_by_29 : decode b_Mo_by 29 = .ok (.aload_n 0, 1) := by decide +kernel
theorem d_Mo_by_30 : decode b_Mo_by 30 = .ok (.getfield 201, 3) := by decide +kernel
theorem d_Mo_by_33 : decode b_Mo_by 33 = .ok (.iconst 2, 1) := by decide +kernel
theorem d_Mo_by_34 : decode b_Mo_by 34 = .ok (.if_icmp .eq 13, 3) := by decide +kernel
theorem d_Mo_by_37 : decode b_Mo_by 37 = .ok (.aload_n 0, 1) := by decide +kernel
theorem d_Mo_by_38 : decode b_Mo_by 38 = .ok (.iconst 2, 1) := by decide +kernel
theorem d_Mo_by_39 : decode b_Mo_by 39 = .ok (.aload_n 0, 1) := by decide +kernel
theorem d_Mo_by_40 : decode b_Mo_by 40 = .ok (.getfield 195, 3) := by decide +kernel
theorem d_Mo_by_43 : decode b_Mo_by 43 = .ok (.invokevirtual 125, 3) := by decide +kernel
theorem d_Mo_by_46 : decode b_Mo_by 46 = .ok (.ireturn, 1) := by decide +kernel
theorem d_Mo_by_47 : decode b_Mo_by 47 = .ok (.aload_n 0, 1) := by decide +kernel
theorem d_Mo_by_48 : decode b_Mo_by 48 = .ok (.getfield 41, 3) := by decide +kernel
theorem d_Mo_by_51 : decode b_Mo_by 51 = .ok (.iload_n 1, 1) := by decide +kernel
theorem d_Mo_by_52 : decode b_Mo_by 52 = .ok (.iaload, 1) := by decide +kernel
theorem d_Mo_by_53 : decode b_Mo_by 53 = .ok (.bipush 6, 2) := by decide +kernel
theorem d_Mo_by_55 : decode b_Mo_by 55 = .ok (.if_icmp .ne 7, 3) := by decide +kernel
theorem d_Mo_by_58 : decode b_Mo_by 58 = .ok (.iconst 1, 1) := by decide +kernel
theorem d_Mo_by_59 : decode b_Mo_by 59 = .ok (.goto 4, 3) := by decide +kernel
theorem d_Mo_by_62 : decode b_Mo_by 62 = .ok (.iconst 0, 1) := by decide +kernel
theorem d_Mo_by_63 : decode b_Mo_by 63 = .ok (.istore_n 3, 1) := by decide +kernel
theorem d_Mo_by_64 : decode b_Mo_by 64 = .ok (.iconst 0, 1) := by decide +kernel
theorem d_Mo_by_65 : decode b_Mo_by 65 = .ok (.istore 4, 2) := by decide +kernel
theorem d_Mo_by_67 : decode b_Mo_by 67 = .ok (.iload 4, 2) := by decide +kernel
theorem d_Mo_by_69 : decode b_Mo_by 69 = .ok (.aload_n 0, 1) := by decide +kernel
theorem d_Mo_by_70 : decode b_Mo_by 70 = .ok (.getfield 41, 3) := by decide +kernel
theorem d_Mo_by_73 : decode b_Mo_by 73 = .ok (.iload_n 1, 1) := by decide +kernel
theorem d_Mo_by_74 : decode b_Mo_by 74 = .ok (.iaload, 1) := by decide +kernel
theorem d_Mo_by_75 : decode b_Mo_by 75 = .ok (.if_icmp .ge 125, 3) := by decide +kernel
theorem d_Mo_by_78 : decode b_Mo_by 78 = .ok (.aload_n 0, 1) := by decide +kernel
theorem d_Mo_by_79 : decode b_Mo_by 79 = .ok (.getfield 47, 3) := by decide +kernel
theorem d_Mo_by_82 : decode b_Mo_by 82 = .ok (.bipush 6, 2) := by decide +kernel
theorem d_Mo_by_84 : decode b_Mo_by 84 = .ok (.iload_n 1, 1) := by decide +kernel
theorem d_Mo_by_85 : decode b_Mo_by 85 = .ok (.imul, 1) := by decide +kernel
theorem d_Mo_by_86 : decode b_Mo_by 86 = .ok (.iload 4, 2) := by decide +kernel
theorem d_Mo_by_88 : decode b_Mo_by 88 = .ok (.iadd, 1) := by decide +kernel
theorem d_Mo_by_89 : decode b_Mo_by 89 = .ok (.iaload, 1) := by decide +kernel
theorem d_Mo_by_90 : decode b_Mo_by 90 = .ok (.aload_n 0, 1) := by decide +kernel
theorem d_Mo_by_91 : decode b_Mo_by 91 = .ok (.getfield 192, 3) := by decide +kernel
theorem d_Mo_by_94 : decode b_Mo_by 94 = .ok (.aload_n 0, 1) := by decide +kernel
theorem d_Mo_by_95 : decode b_Mo_by 95 = .ok (.getfield 195, 3) := by decide +kernel
theorem d_Mo_by_98 : decode b_Mo_by 98 = .ok (.isub, 1) := by decide +kernel
theorem d_Mo_by_99 : decode b_Mo_by 99 = .ok (.if_icmp .ne 7, 3) := by decide +kernel
theorem d_Mo_by_102 : decode b_Mo_by 102 = .ok (.iconst 1, 1) := by decide +kernel
theorem d_Mo_by_103 : decode b_Mo_by 103 = .ok (.goto 4, 3) := by decide +kernel
theorem d_Mo_by_106 : decode b_Mo_by 106 = .ok (.iconst 0, 1) := by decide +kernel
theorem d_Mo_by_107 : decode b_Mo_by 107 = .ok (.istore 5, 2) := by decide +kernel
theorem d_Mo_by_109 : decode b_Mo_by 109 = .ok (.iconst 0, 1) := by decide +kernel
theorem d_Mo_by_110 : decode b_Mo_by 110 = .ok (.istore 6, 2) := by decide +kernel
theorem d_Mo_by_112 : decode b_Mo_by 112 = .ok (.iload 6, 2) := by decide +kernel
theorem d_Mo_by_114 : decode b_Mo_by 114 = .ok (.aload_n 0, 1) := by decide +kernel
theorem d_Mo_by_115 : decode b_Mo_by 115 = .ok (.getfield 192, 3) := by decide +kernel
theorem d_Mo_by_118 : decode b_Mo_by 118 = .ok (.aload_n 0, 1) := by decide +kernel
theorem d_Mo_by_119 : decode b_Mo_by 119 = .ok (.getfield 195, 3) := by decide +kernel
theorem d_Mo_by_122 : decode b_Mo_by 122 = .ok (.isub, 1) := by decide +kernel
theorem d_Mo_by_123 : decode b_Mo_by 123 = .ok (.if_icmp .ge 56, 3) := by decide +kernel
theorem d_Mo_by_126 : decode b_Mo_by 126 = .ok (.iload 5, 2) := by decide +kernel
theorem d_Mo_by_128 : decode b_Mo_by 128 = .ok (.ifCond .eq 51, 3) := by decide +kernel
theorem d_Mo_by_131 : decode b_Mo_by 131 = .ok (.aload_n 0, 1) := by decide +kernel
theorem d_Mo_by_132 : decode b_Mo_by 132 = .ok (.getfield 8, 3) := by decide +kernel
theorem d_Mo_by_135 : decode b_Mo_by 135 = .ok (.aload_n 0, 1) := by decide +kernel
theorem d_Mo_by_136 : decode b_Mo_by 136 = .ok (.getfield 44, 3) := by decide +kernel
theorem d_Mo_by_139 : decode b_Mo_by 139 = .ok (.bipush 6, 2) := by decide +kernel
theorem d_Mo_by_141 : decode b_Mo_by 141 = .ok (.iload_n 1, 1) := by decide +kernel
theorem d_Mo_by_142 : decode b_Mo_by 142 = .ok (.imul, 1) := by decide +kernel
theorem d_Mo_by_143 : decode b_Mo_by 143 = .ok (.iload 4, 2) := by decide +kernel
theorem d_Mo_by_145 : decode b_Mo_by 145 = .ok (.iadd, 1) := by decide +kernel
theorem d_Mo_by_146 : decode b_Mo_by 146 = .ok (.iaload, 1) := by decide +kernel
theorem d_Mo_by_147 : decode b_Mo_by 147 = .ok (.iload 6, 2) := by decide +kernel
theorem d_Mo_by_149 : decode b_Mo_by 149 = .ok (.iadd, 1) := by decide +kernel
theorem d_Mo_by_150 : decode b_Mo_by 150 = .ok (.baload, 1) := by decide +kernel
theorem d_Mo_by_151 : decode b_Mo_by 151 = .ok (.aload_n 0, 1) := by decide +kernel
theorem d_Mo_by_152 : decode b_Mo_by 152 = .ok (.getfield 8, 3) := by decide +kernel
theorem d_Mo_by_155 : decode b_Mo_by 155 = .ok (.aload_n 0, 1) := by decide +kernel
theorem d_Mo_by_156 : decode b_Mo_by 156 = .ok (.getfield 195, 3) := by decide +kernel
theorem d_Mo_by_159 : decode b_Mo_by 159 = .ok (.iload 6, 2) := by decide +kernel
theorem d_Mo_by_161 : decode b_Mo_by 161 = .ok (.iadd, 1) := by decide +kernel
theorem d_Mo_by_162 : decode b_Mo_by 162 = .ok (.baload, 1) := by decide +kernel
theorem d_Mo_by_163 : decode b_Mo_by 163 = .ok (.if_icmp .ne 7, 3) := by decide +kernel
theorem d_Mo_by_166 : decode b_Mo_by 166 = .ok (.iconst 1, 1) := by decide +kernel
theorem d_Mo_by_167 : decode b_Mo_by 167 = .ok (.goto 4, 3) := by decide +kernel
theorem d_Mo_by_170 : decode b_Mo_by 170 = .ok (.iconst 0, 1) := by decide +kernel
theorem d_Mo_by_171 : decode b_Mo_by 171 = .ok (.istore 5, 2) := by decide +kernel
theorem d_Mo_by_173 : decode b_Mo_by 173 = .ok (.iinc 6 1, 3) := by decide +kernel
theorem d_Mo_by_176 : decode b_Mo_by 176 = .ok (.goto (-64), 3) := by decide +kernel
theorem d_Mo_by_179 : decode b_Mo_by 179 = .ok (.iload_n 3, 1) := by decide +kernel
theorem d_Mo_by_180 : decode b_Mo_by 180 = .ok (.ifCond .ne 8, 3) := by decide +kernel
theorem d_Mo_by_183 : decode b_Mo_by 183 = .ok (.iload 5, 2) := by decide +kernel
theorem d_Mo_by_185 : decode b_Mo_by 185 = .ok (.ifCond .eq 7, 3) := by decide +kernel
theorem d_Mo_by_188 : decode b_Mo_by 188 = .ok (.iconst 1, 1) := by decide +kernel
theorem d_Mo_by_189 : decode b_Mo_by 189 = .ok (.goto 4, 3) := by decide +kernel
theorem d_Mo_by_192 : decode b_Mo_by 192 = .ok (.iconst 0, 1) := by decide +kernel
theorem d_Mo_by_193 : decode b_Mo_by 193 = .ok (.istore_n 3, 1) := by decide +kernel
theorem d_Mo_by_194 : decode b_Mo_by 194 = .ok (.iinc 4 1, 3) := by decide +kernel
theorem d_Mo_by_197 : decode b_Mo_by 197 = .ok (.goto (-130), 3) := by decide +kernel
theorem d_Mo_by_200 : decode b_Mo_by 200 = .ok (.iload_n 3, 1) := by decide +kernel
theorem d_Mo_by_201 : decode b_Mo_by 201 = .ok (.ifCond .eq 13, 3) := by decide +kernel
theorem d_Mo_by_204 : decode b_Mo_by 204 = .ok (.aload_n 0, 1) := by decide +kernel
theorem d_Mo_by_205 : decode b_Mo_by 205 = .ok (.iconst 4, 1) := by decide +kernel
theorem d_Mo_by_206 : decode b_Mo_by 206 = .ok (.aload_n 0, 1) := by decide +kernel
theorem d_Mo_by_207 : decode b_Mo_by 207 = .ok (.getfield 195, 3) := by decide +kernel
theorem d_Mo_by_210 : decode b_Mo_by 210 = .ok (.invokevirtual 125, 3) := by decide +kernel
theorem d_Mo_by_213 : decode b_Mo_by 213 = .ok (.ireturn, 1) := by decide +kernel
theorem d_Mo_by_214 : decode b_Mo_by 214 = .ok (.aload_n 0, 1) := by decide +kernel
theorem d_Mo_by_215 : decode b_Mo_by 215 = .ok (.getfield 44, 3) := by decide +kernel
theorem d_Mo_by_218 : decode b_Mo_by 218 = .ok (.bipush 6, 2) := by decide +kernel
theorem d_Mo_by_220 : decode b_Mo_by 220 = .ok (.iload_n 1, 1) := by decide +kernel
theorem d_Mo_by_221 : decode b_Mo_by 221 = .ok (.imul, 1) := by decide +kernel
theorem d_Mo_by_222 : decode b_Mo_by 222 = .ok (.aload_n 0, 1) := by decide +kernel
theorem d_Mo_by_223 : decode b_Mo_by 223 = .ok (.getfield 41, 3) := by decide +kernel
theorem d_Mo_by_226 : decode b_Mo_by 226 = .ok (.iload_n 1, 1) := by decide +kernel
theorem d_Mo_by_227 : decode b_Mo_by 227 = .ok (.iaload, 1) := by decide +kernel
theorem d_Mo_by_228 : decode b_Mo_by 228 = .ok (.iadd, 1) := by decide +kernel
theorem d_Mo_by_229 : decode b_Mo_by 229 = .ok (.aload_n 0, 1) := by decide +kernel
theorem d_Mo_by_230 : decode b_Mo_by 230 = .ok (.getfield 195, 3) := by decide +kernel
theorem d_Mo_by_233 : decode b_Mo_by 233 = .ok (.iastore, 1) := by decide +kernel
theorem d_Mo_by_234 : decode b_Mo_by 234 = .ok (.aload_n 0, 1) := by decide +kernel
theorem d_Mo_by_235 : decode b_Mo_by 235 = .ok (.getfield 47, 3) := by decide +kernel
theorem d_Mo_by_238 : decode b_Mo_by 238 = .ok (.bipush 6, 2) := by decide +kernel
theorem d_Mo_by_240 : decode b_Mo_by 240 = .ok (.iload_n 1, 1) := by decide +kernel
theorem d_Mo_by_241 : decode b_Mo_by 241 = .ok (.imul, 1) := by decide +kernel
theorem d_Mo_by_242 : decode b_Mo_by 242 = .ok (.aload_n 0, 1) := by decide +kernel
theorem d_Mo_by_243 : decode b_Mo_by 243 = .ok (.getfield 41, 3) := by decide +kernel
theorem d_Mo_by_246 : decode b_Mo_by 246 = .ok (.iload_n 1, 1) := by decide +kernel
theorem d_Mo_by_247 : decode b_Mo_by 247 = .ok (.iaload, 1) := by decide +kernel
theorem d_Mo_by_248 : decode b_Mo_by 248 = .ok (.iadd, 1) := by decide +kernel
theorem d_Mo_by_249 : decode b_Mo_by 249 = .ok (.aload_n 0, 1) := by decide +kernel
theorem d_Mo_by_250 : decode b_Mo_by 250 = .ok (.getfield 192, 3) := by decide +kernel
theorem d_Mo_by_253 : decode b_Mo_by 253 = .ok (.aload_n 0, 1) := by decide +kernel
theorem d_Mo_by_254 : decode b_Mo_by 254 = .ok (.getfield 195, 3) := by decide +kernel
theorem d_Mo_by_257 : decode b_Mo_by 257 = .ok (.isub, 1) := by decide +kernel
theorem d_Mo_by_258 : decode b_Mo_by 258 = .ok (.iastore, 1) := by decide +kernel
theorem d_Mo_by_259 : decode b_Mo_by 259 = .ok (.aload_n 0, 1) := by decide +kernel
theorem d_Mo_by_260 : decode b_Mo_by 260 = .ok (.getfield 41, 3) := by decide +kernel
theorem d_Mo_by_263 : decode b_Mo_by 263 = .ok (.iload_n 1, 1) := by decide +kernel
theorem d_Mo_by_264 : decode b_Mo_by 264 = .ok (.dup2, 1) := by decide +kernel
theorem d_Mo_by_265 : decode b_Mo_by 265 = .ok (.iaload, 1) := by decide +kernel
theorem d_Mo_by_266 : decode b_Mo_by 266 = .ok (.iconst 1, 1) := by decide +kernel
theorem d_Mo_by_267 : decode b_Mo_by 267 = .ok (.iadd, 1) := by decide +kernel
theorem d_Mo_by_268 : decode b_Mo_by 268 = .ok (.iastore, 1) := by decide +kernel
theorem d_Mo_by_269 : decode b_Mo_by 269 = .ok (.aload_n 0, 1) := by decide +kernel
theorem d_Mo_by_270 : decode b_Mo_by 270 = .ok (.invokevirtual 223, 3) := by decide +kernel
theorem d_Mo_by_273 : decode b_Mo_by 273 = .ok (.ifCond .ne 5, 3) := by decide +kernel
theorem d_Mo_by_276 : decode b_Mo_by 276 = .ok (.iconst 0, 1) := by decide +kernel
theorem d_Mo_by_277 : decode b_Mo_by 277 = .ok (.ireturn, 1) := by decide +kernel
theorem d_Mo_by_278 : decode b_Mo_by 278 = .ok (.aload_n 0, 1) := by decide +kernel
theorem d_Mo_by_279 : decode b_Mo_by 279 = .ok (.getfield 201, 3) := by decide +kernel
theorem d_Mo_by_282 : decode b_Mo_by 282 = .ok (.bipush 44, 2) := by decide +kernel
theorem d_Mo_by_284 : decode b_Mo_by 284 = .ok (.if_icmp .ne 7, 3) := by decide +kernel
theorem d_Mo_by_287 : decode b_Mo_by 287 = .ok (.iconst 1, 1) := by decide +kernel
theorem d_Mo_by_288 : decode b_Mo_by 288 = .ok (.goto 4, 3) := by decide +kernel
theorem d_Mo_by_291 : decode b_Mo_by 291 = .ok (.iconst 0, 1) := by decide +kernel
theorem d_Mo_by_292 : decode b_Mo_by 292 = .ok (.istore_n 2, 1) := by decide +kernel
theorem d_Mo_by_293 : decode b_Mo_by 293 = .ok (.iload_n 2, 1) := by decide +kernel
theorem d_Mo_by_294 : decode b_Mo_by 294 = .ok (.ifCond .eq 12, 3) := by decide +kernel
theorem d_Mo_by_297 : decode b_Mo_by 297 = .ok (.aload_n 0, 1) := by decide +kernel
theorem d_Mo_by_298 : decode b_Mo_by 298 = .ok (.invokevirtual 223, 3) := by decide +kernel
theorem d_Mo_by_301 : decode b_Mo_by 301 = .ok (.ifCond .ne 5, 3) := by decide +kernel
theorem d_Mo_by_304 : decode b_Mo_by 304 = .ok (.iconst 0, 1) := by decide +kernel
theorem d_Mo_by_305 : decode b_Mo_by 305 = .ok (.ireturn, 1) := by decide +kernel
theorem d_Mo_by_306 : decode b_Mo_by 306 = .ok (.goto (-281), 3) := by decide +kernel
theorem d_Mo_by_309 : decode b_Mo_by 309 = .ok (.aload_n 0, 1) := by decide +kernel
theorem d_Mo_by_310 : decode b_Mo_by 310 = .ok (.bipush 41, 2) := by decide +kernel
theorem d_Mo_by_312 : decode b_Mo_by 312 = .ok (.invokevirtual 313, 3) := by decide +kernel
theorem d_Mo_by_315 : decode b_Mo_by 315 = .ok (.ireturn, 1) := by decide +kernel
theorem d_Mo_match_0 : decode b_Mo_match 0 = .ok (.aload_n 0, 1) := by decide +kernel
theorem d_Mo_match_1 : decode b_Mo_match 1 = .ok (.iconst 2, 1) := by decide +kernel
theorem d_Mo_match_2 : decode b_Mo_match 2 = .ok (.invokevirtual 313, 3) := by decide +kernel
theorem d_Mo_match_5 : decode b_Mo_match 5 = .ok (.ifCond .ne 5, 3) := by decide +kernel
theorem d_Mo_match_8 : decode b_Mo_match 8 = .ok (.iconst 0, 1) := by decide +kernel
theorem d_Mo_match_9 : decode b_Mo_match 9 = .ok (.ireturn, 1) := by decide +kernel
theorem d_Mo_match_10 : decode b_Mo_match 10 = .ok (.aload_n 0, 1) := by decide +kernel
theorem d_Mo_match_11 : decode b_Mo_match 11 = .ok (.getfield 201, 3) := by decide +kernel
theorem d_Mo_match_14 : decode b_Mo_match 14 = .ok (.bipush 61, 2) := by decide +kernel
theorem d_Mo_match_16 : decode b_Mo_match 16 = .ok (.if_icmp .eq 23, 3) := by decide +kernel
theorem d_Mo_match_19 : decode b_Mo_match 19 = .ok (.aload_n 0, 1) := by decide +kernel
theorem d_Mo_match_20 : decode b_Mo_match 20 = .ok (.getfield 201, 3) := by decide +kernel
theorem d_Mo_match_23 : decode b_Mo_match 23 = .ok (.sipush 256, 3) := by decide +kernel
theorem d_Mo_match_26 : decode b_Mo_match 26 = .ok (.if_icmp .ge 13, 3) := by decide +kernel
theorem d_Mo_match_29 : decode b_Mo_match 29 = .ok (.aload_n 0, 1) := by decide +kernel
theorem d_Mo_match_30 : decode b_Mo_match 30 = .ok (.iconst 2, 1) := by decide +kernel
theorem d_Mo_match_31 : decode b_Mo_match 31 = .ok (.aload_n 0, 1) := by decide +kernel
theorem d_Mo_match_32 : decode b_Mo_match 32 = .ok (.getfield 195, 3) := by decide +kernel
theorem d_Mo_match_35 : decode b_Mo_match 35 = .ok (.invokevirtual 125, 3) := by decide +kernel
theorem d_Mo_match_38 : decode b_Mo_match 38 = .ok (.ireturn, 1) := by decide +kernel
theorem d_Mo_match_39 : decode b_Mo_match 39 = .ok (.aload_n 0, 1) := by decide +kernel
theorem d_Mo_match_40 : decode b_Mo_match 40 = .ok (.invokevirtual 223, 3) := by decide +kernel
theorem d_Mo_match_43 : decode b_Mo_match 43 = .ok (.ifCond .eq 15, 3) := by decide +kernel
theorem d_Mo_match_46 : decode b_Mo_match 46 = .ok (.aload_n 0, 1) := by decide +kernel
theorem d_Mo_match_47 : decode b_Mo_match 47 = .ok (.iconst 3, 1) := by decide +kernel
theorem d_Mo_match_48 : decode b_Mo_match 48 = .ok (.invokevirtual 313, 3) := by decide +kernel
theorem d_Mo_match_51 : decode b_Mo_match 51 = .ok (.ifCond .eq 7, 3) := by decide +kernel
theorem d_Mo_match_54 : decode b_Mo_match 54 = .ok (.iconst 1, 1) := by decide +kernel
theorem d_Mo_match_55 : decode b_Mo_match 55 = .ok (.goto 4, 3) := by decide +kernel
theorem d_Mo_match_58 : decode b_Mo_match 58 = .ok (.iconst 0, 1) := by decide +kernel
theorem d_Mo_match_59 : decode b_Mo_match 59 = .ok (.ireturn, 1) := by decide +kernel
theorem d_Mo_called_0 : decode b_Mo_called 0 = .ok (.aload_n 0, 1) := by decide +kernel
theorem d_Mo_called_1 : decode b_Mo_called 1 = .ok (.getfield 41, 3) := by decide +kernel
theorem d_Mo_called_4 : decode b_Mo_called 4 = .ok (.aload_n 0, 1) := by decide +kernel
theorem d_Mo_called_5 : decode b_Mo_called 5 = .ok (.getfield 253, 3) := by decide +kernel
theorem d_Mo_called_8 : decode b_Mo_called 8 = .ok (.iconst 0, 1) := by decide +kernel
theorem d_Mo_called_9 : decode b_Mo_called 9 = .ok (.iastore, 1) := by decide +kernel
theorem d_Mo_called_10 : decode b_Mo_called 10 = .ok (.aload_n 0, 1) := by decide +kernel
theorem d_Mo_called_11 : decode b_Mo_called 11 = .ok (.invokevirtual 223, 3) := by decide +kernel
theorem d_Mo_called_14 : decode b_Mo_called 14 = .ok (.ifCond .eq 35, 3) := by decide +kernel
theorem d_Mo_called_17 : decode b_Mo_called 17 = .ok (.aload_n 0, 1) := by decide +kernel
theorem d_Mo_called_18 : decode b_Mo_called 18 = .ok (.bipush 98, 2) := by decide +kernel
theorem d_Mo_called_20 : decode b_Mo_called 20 = .ok (.bipush 121, 2) := by decide +kernel
theorem d_Mo_called_22 : decode b_Mo_called 22 = .ok (.bipush 32, 2) := by decide +kernel
theorem d_Mo_called_24 : decode b_Mo_called 24 = .ok (.bipush 32, 2) := by decide +kernel
theorem d_Mo_called_26 : decode b_Mo_called 26 = .ok (.iconst 2, 1) := by decide +kernel
theorem d_Mo_called_27 : decode b_Mo_called 27 = .ok (.invokevirtual 226, 3) := by decide +kernel
theorem d_Mo_called_30 : decode b_Mo_called 30 = .ok (.ifCond .eq 10, 3) := by decide +kernel
theorem d_Mo_called_33 : decode b_Mo_called 33 = .ok (.aload_n 0, 1) := by decide +kernel
theorem d_Mo_called_34 : decode b_Mo_called 34 = .ok (.invokevirtual 316, 3) := by decide +kernel
theorem d_Mo_called_37 : decode b_Mo_called 37 = .ok (.ifCond .eq 12, 3) := by decide +kernel
theorem d_Mo_called_40 : decode b_Mo_called 40 = .ok (.aload_n 0, 1) := by decide +kernel
theorem d_Mo_called_41 : decode b_Mo_called 41 = .ok (.bipush 40, 2) := by decide +kernel
theorem d_Mo_called_43 : decode b_Mo_called 43 = .ok (.invokevirtual 313, 3) := by decide +kernel
theorem d_Mo_called_46 : decode b_Mo_called 46 = .ok (.ifCond .ne 5, 3) := by decide +kernel
theorem d_Mo_called_49 : decode b_Mo_called 49 = .ok (.iconst 0, 1) := by decide +kernel
theorem d_Mo_called_50 : decode b_Mo_called 50 = .ok (.ireturn, 1) := by decide +kernel
theorem d_Mo_called_51 : decode b_Mo_called 51 = .ok (.aload_n 0, 1) := by decide +kernel
theorem d_Mo_called_52 : decode b_Mo_called 52 = .ok (.getfield 192, 3) := by decide +kernel
theorem d_Mo_called_55 : decode b_Mo_called 55 = .ok (.istore_n 2, 1) := by decide +kernel
theorem d_Mo_called_56 : decode b_Mo_called 56 = .ok (.aload_n 0, 1) := by decide +kernel
theorem d_Mo_called_57 : decode b_Mo_called 57 = .ok (.bipush 123, 2) := by decide +kernel
theorem d_Mo_called_59 : decode b_Mo_called 59 = .ok (.invokevirtual 313, 3) := by decide +kernel
theorem d_Mo_called_62 : decode b_Mo_called 62 = .ok (.ifCond .ne 5, 3) := by decide +kernel
theorem d_Mo_called_65 : decode b_Mo_called 65 = .ok (.iconst 0, 1) := by decide +kernel
theorem d_Mo_called_66 : decode b_Mo_called 66 = .ok (.ireturn, 1) := by decide +kernel
theorem d_Mo_called_67 : decode b_Mo_called 67 = .ok (.aload_n 0, 1) := by decide +kernel
theorem d_Mo_called_68 : decode b_Mo_called 68 = .ok (.getfield 201, 3) := by decide +kernel
theorem d_Mo_called_71 : decode b_Mo_called 71 = .ok (.bipush 125, 2) := by decide +kernel
theorem d_Mo_called_73 : decode b_Mo_called 73 = .ok (.if_icmp .eq 7, 3) := by decide +kernel
theorem d_Mo_called_76 : decode b_Mo_called 76 = .ok (.iconst 1, 1) := by decide +kernel
theorem d_Mo_called_77 : decode b_Mo_called 77 = .ok (.goto 4, 3) := by decide +kernel
theorem d_Mo_called_80 : decode b_Mo_called 80 = .ok (.iconst 0, 1) := by decide +kernel
theorem d_Mo_called_81 : decode b_Mo_called 81 = .ok (.istore_n 3, 1) := by decide +kernel
theorem d_Mo_called_82 : decode b_Mo_called 82 = .ok (.iload_n 3, 1) := by decide +kernel
theorem d_Mo_called_83 : decode b_Mo_called 83 = .ok (.ifCond .eq 40, 3) := by decide +kernel
theorem d_Mo_called_86 : decode b_Mo_called 86 = .ok (.aload_n 0, 1) := by decide +kernel
theorem d_Mo_called_87 : decode b_Mo_called 87 = .ok (.invokevirtual 319, 3) := by decide +kernel
theorem d_Mo_called_90 : decode b_Mo_called 90 = .ok (.ifCond .ne 5, 3) := by decide +kernel
theorem d_Mo_called_93 : decode b_Mo_called 93 = .ok (.iconst 0, 1) := by decide +kernel
theorem d_Mo_called_94 : decode b_Mo_called 94 = .ok (.ireturn, 1) := by decide +kernel
theorem d_Mo_called_95 : decode b_Mo_called 95 = .ok (.aload_n 0, 1) := by decide +kernel
theorem d_Mo_called_96 : decode b_Mo_called 96 = .ok (.getfield 201, 3) := by decide +kernel
theorem d_Mo_called_99 : decode b_Mo_called 99 = .ok (.bipush 44, 2) := by decide +kernel
theorem d_Mo_called_101 : decode b_Mo_called 101 = .ok (.if_icmp .ne 7, 3) := by decide +kernel
theorem d_Mo_called_104 : decode b_Mo_called 104 = .ok (.iconst 1, 1) := by decide +kernel
theorem d_Mo_called_105 : decode b_Mo_called 105 = .ok (.goto 4, 3) := by decide +kernel
theorem d_Mo_called_108 : decode b_Mo_called 108 = .ok (.iconst 0, 1) := by decide +kernel
theorem d_Mo_called_109 : decode b_Mo_called 109 = .ok (.istore_n 3, 1) := by decide +kernel
theorem d_Mo_called_110 : decode b_Mo_called 110 = .ok (.iload_n 3, 1) := by decide +kernel
theorem d_Mo_called_111 : decode b_Mo_called 111 = .ok (.ifCond .eq (-29), 3) := by decide +kernel
theorem d_Mo_called_114 : decode b_Mo_called 114 = .ok (.aload_n 0, 1) := by decide +kernel
theorem d_Mo_called_115 : decode b_Mo_called 115 = .ok (.invokevirtual 223, 3) := by decide +kernel
theorem d_Mo_called_118 : decode b_Mo_called 118 = .ok (.ifCond .ne (-36), 3) := by decide +kernel
theorem d_Mo_called_121 : decode b_Mo_called 121 = .ok (.iconst 0, 1) := by decide +kernel
theorem d_Mo_called_122 : decode b_Mo_called 122 = .ok (.ireturn, 1) := by decide +kernel
theorem d_Mo_called_123 : decode b_Mo_called 123 = .ok (.aload_n 0, 1) := by decide +kernel
theorem d_Mo_called_124 : decode b_Mo_called 124 = .ok (.bipush 125, 2) := by decide +kernel
theorem d_Mo_called_126 : decode b_Mo_called 126 = .ok (.invokevirtual 313, 3) := by decide +kernel
theorem d_Mo_called_129 : decode b_Mo_called 129 = .ok (.ifCond .ne 5, 3) := by decide +kernel
theorem d_Mo_called_132 : decode b_Mo_called 132 = .ok (.iconst 0, 1) := by decide +kernel
theorem d_Mo_called_133 : decode b_Mo_called 133 = .ok (.ireturn, 1) := by decide +kernel
theorem d_Mo_called_134 : decode b_Mo_called 134 = .ok (.aload_n 0, 1) := by decide +kernel
theorem d_Mo_called_135 : decode b_Mo_called 135 = .ok (.getfield 201, 3) := by decide +kernel
theorem d_Mo_called_138 : decode b_Mo_called 138 = .ok (.bipush 41, 2) := by decide +kernel
theorem d_Mo_called_140 : decode b_Mo_called 140 = .ok (.if_icmp .eq 13, 3) := by decide +kernel
theorem d_Mo_called_143 : decode b_Mo_called 143 = .ok (.aload_n 0, 1) := by decide +kernel
theorem d_Mo_called_144 : decode b_Mo_called 144 = .ok (.iconst 2, 1) := by decide +kernel
theorem d_Mo_called_145 : decode b_Mo_called 145 = .ok (.aload_n 0, 1) := by decide +kernel
theorem d_Mo_called_146 : decode b_Mo_called 146 = .ok (.getfield 195, 3) := by decide +kernel
theorem d_Mo_called_149 : decode b_Mo_called 149 = .ok (.invokevirtual 125, 3) := by decide +kernel
theorem d_Mo_called_152 : decode b_Mo_called 152 = .ok (.ireturn, 1) := by decide +kernel
theorem d_Mo_called_153 : decode b_Mo_called 153 = .ok (.aload_n 0, 1) := by decide +kernel
theorem d_Mo_called_154 : decode b_Mo_called 154 = .ok (.getfield 297, 3) := by decide +kernel
theorem d_Mo_called_157 : decode b_Mo_called 157 = .ok (.ifCond .eq 9, 3) := by decide +kernel
theorem d_Mo_called_160 : decode b_Mo_called 160 = .ok (.aload_n 0, 1) := by decide +kernel
theorem d_Mo_called_161 : decode b_Mo_called 161 = .ok (.iload_n 1, 1) := by decide +kernel
theorem d_Mo_called_162 : decode b_Mo_called 162 = .ok (.iload_n 2, 1) := by decide +kernel
theorem d_Mo_called_163 : decode b_Mo_called 163 = .ok (.invokevirtual 322, 3) := by decide +kernel
theorem d_Mo_called_166 : decode b_Mo_called 166 = .ok (.aload_n 0, 1) := by decide +kernel
theorem d_Mo_called_167 : decode b_Mo_called 167 = .ok (.invokevirtual 223, 3) := by decide +kernel
theorem d_Mo_called_170 : decode b_Mo_called 170 = .ok (.ireturn, 1) := by decide +kernel
theorem d_Mo_operand_0 : decode b_Mo_operand 0 = .ok (.aload_n 0, 1) := by decide +kernel
theorem d_Mo_operand_1 : decode b_Mo_operand 1 = .ok (.getfield 201, 3) := by decide +kernel
theorem d_Mo_operand_4 : decode b_Mo_operand 4 = .ok (.bipush 45, 2) := by decide +kernel
theorem d_Mo_operand_6 : decode b_Mo_operand 6 = .ok (.if_icmp .eq 12, 3) := by decide +kernel
theorem d_Mo_operand_9 : decode b_Mo_operand 9 = .ok (.aload_n 0, 1) := by decide +kernel
theorem d_Mo_operand_10 : decode b_Mo_operand 10 = .ok (.getfield 201, 3) := by decide +kernel
theorem d_Mo_operand_13 : decode b_Mo_operand 13 = .ok (.bipush 40, 2) := by decide +kernel
theorem d_Mo_operand_15 : decode b_Mo_operand 15 = .ok (.if_icmp .ne 24, 3) := by decide +kernel
theorem d_Mo_operand_18 : decode b_Mo_operand 18 = .ok (.aload_n 0, 1) := by decide +kernel
theorem d_Mo_operand_19 : decode b_Mo_operand 19 = .ok (.aload_n 0, 1) := by decide +kernel
theorem d_Mo_operand_20 : decode b_Mo_operand 20 = .ok (.getfield 201, 3) := by decide +kernel
theorem d_Mo_operand_23 : decode b_Mo_operand 23 = .ok (.bipush 45, 2) := by decide +kernel
theorem d_Mo_operand_25 : decode b_Mo_operand 25 = .ok (.if_icmp .ne 8, 3) := by decide +kernel
theorem d_Mo_operand_28 : decode b_Mo_operand 28 = .ok (.bipush 109, 2) := by decide +kernel
theorem d_Mo_operand_30 : decode b_Mo_operand 30 = .ok (.goto 5, 3) := by decide +kernel
theorem d_Mo_operand_33 : decode b_Mo_operand 33 = .ok (.bipush 40, 2) := by decide +kernel
theorem d_Mo_operand_35 : decode b_Mo_operand 35 = .ok (.invokevirtual 325, 3) := by decide +kernel
theorem d_Mo_operand_38 : decode b_Mo_operand 38 = .ok (.ireturn, 1) := by decide +kernel
theorem d_Mo_operand_39 : decode b_Mo_operand 39 = .ok (.aload_n 0, 1) := by decide +kernel
theorem d_Mo_operand_40 : decode b_Mo_operand 40 = .ok (.iconst 0, 1) := by decide +kernel
theorem d_Mo_operand_41 : decode b_Mo_operand 41 = .ok (.putfield 328, 3) := by decide +kernel
theorem d_Mo_operand_44 : decode b_Mo_operand 44 = .ok (.aload_n 0, 1) := by decide +kernel
theorem d_Mo_operand_45 : decode b_Mo_operand 45 = .ok (.invokevirtual 331, 3) := by decide +kernel
theorem d_Mo_operand_48 : decode b_Mo_operand 48 = .ok (.istore_n 1, 1) := by decide +kernel
theorem d_Mo_operand_49 : decode b_Mo_operand 49 = .ok (.aload_n 0, 1) := by decide +kernel
theorem d_Mo_operand_50 : decode b_Mo_operand 50 = .ok (.getfield 201, 3) := by decide +kernel
theorem d_Mo_operand_53 : decode b_Mo_operand 53 = .ok (.iconst 1, 1) := by decide +kernel
theorem d_Mo_operand_54 : decode b_Mo_operand 54 = .ok (.if_icmp .eq 17, 3) := by decide +kernel
theorem d_Mo_operand_57 : decode b_Mo_operand 57 = .ok (.iload_n 1, 1) := by decide +kernel
theorem d_Mo_operand_58 : decode b_Mo_operand 58 = .ok (.ifCond .ge 13, 3) := by decide +kernel
theorem d_Mo_operand_61 : decode b_Mo_operand 61 = .ok (.aload_n 0, 1) := by decide +kernel
theorem d_Mo_operand_62 : decode b_Mo_operand 62 = .ok (.iconst 2, 1) := by decide +kernel
theorem d_Mo_operand_63 : decode b_Mo_operand 63 = .ok (.aload_n 0, 1) := by decide +kernel
theorem d_Mo_operand_64 : decode b_Mo_operand 64 = .ok (.getfield 195, 3) := by decide +kernel
theorem d_Mo_operand_67 : decode b_Mo_operand 67 = .ok (.invokevirtual 125, 3) := by decide +kernel
theorem d_Mo_operand_70 : decode b_Mo_operand 70 = .ok (.ireturn, 1) := by decide +kernel
theorem d_Mo_operand_71 : decode b_Mo_operand 71 = .ok (.iload_n 1, 1) := by decide +kernel
theorem d_Mo_operand_72 : decode b_Mo_operand 72 = .ok (.ifCond .lt 13, 3) := by decide +kernel
theorem d_Mo_operand_75 : decode b_Mo_operand 75 = .ok (.aload_n 0, 1) := by decide +kernel
theorem d_Mo_operand_76 : decode b_Mo_operand 76 = .ok (.iload_n 1, 1) := by decide +kernel
theorem d_Mo_operand_77 : decode b_Mo_operand 77 = .ok (.invokevirtual 334, 3) := by decide +kernel
theorem d_Mo_operand_80 : decode b_Mo_operand 80 = .ok (.ifCond .ne 5, 3) := by decide +kernel
theorem d_Mo_operand_83 : decode b_Mo_operand 83 = .ok (.iconst 0, 1) := by decide +kernel
theorem d_Mo_operand_84 : decode b_Mo_operand 84 = .ok (.ireturn, 1) := by decide +kernel
theorem d_Mo_operand_85 : decode b_Mo_operand 85 = .ok (.iload_n 1, 1) := by decide +kernel
theorem d_Mo_operand_86 : decode b_Mo_operand 86 = .ok (.ifCond .ge 23, 3) := by decide +kernel
theorem d_Mo_operand_89 : decode b_Mo_operand 89 = .ok (.aload_n 0, 1) := by decide +kernel
theorem d_Mo_operand_90 : decode b_Mo_operand 90 = .ok (.getfield 297, 3) := by decide +kernel
theorem d_Mo_operand_93 : decode b_Mo_operand 93 = .ok (.ifCond .eq 7, 3) := by decide +kernel
theorem d_Mo_operand_96 : decode b_Mo_operand 96 = .ok (.aload_n 0, 1) := by decide +kernel
theorem d_Mo_operand_97 : decode b_Mo_operand 97 = .ok (.invokevirtual 337, 3) := by decide +kernel
theorem d_Mo_operand_100 : decode b_Mo_operand 100 = .ok (.aload_n 0, 1) := by decide +kernel
theorem d_Mo_operand_101 : decode b_Mo_operand 101 = .ok (.invokevirtual 223, 3) := by decide +kernel
theorem d_Mo_operand_104 : decode b_Mo_operand 104 = .ok (.ifCond .ne 5, 3) := by decide +kernel
theorem d_Mo_operand_107 : decode b_Mo_operand 107 = .ok (.iconst 0, 1) := by decide +kernel
theorem d_Mo_operand_108 : decode b_Mo_operand 108 = .ok (.ireturn, 1) := by decide +kernel
theorem d_Mo_operand_109 : decode b_Mo_operand 109 = .ok (.aload_n 0, 1) := by decide +kernel
theorem d_Mo_operand_110 : decode b_Mo_operand 110 = .ok (.iconst 3, 1) := by decide +kernel
theorem d_Mo_operand_111 : decode b_Mo_operand 111 = .ok (.invokevirtual 340, 3) := by decide +kernel
theorem d_Mo_operand_114 : decode b_Mo_operand 114 = .ok (.ireturn, 1) := by decide +kernel
theorem d_Mo_isOpen_0 : decode b_Mo_isOpen 0 = .ok (.iconst 0, 1) := by decide +kernel
theorem d_Mo_isOpen_1 : decode b_Mo_isOpen 1 = .ok (.istore_n 1, 1) := by decide +kernel
theorem d_Mo_isOpen_2 : decode b_Mo_isOpen 2 = .ok (.iconst 0, 1) := by decide +kernel
theorem d_Mo_isOpen_3 : decode b_Mo_isOpen 3 = .ok (.istore_n 2, 1) := by decide +kernel
theorem d_Mo_isOpen_4 : decode b_Mo_isOpen 4 = .ok (.iload_n 2, 1) := by decide +kernel
theorem d_Mo_isOpen_5 : decode b_Mo_isOpen 5 = .ok (.aload_n 0, 1) := by decide +kernel
theorem d_Mo_isOpen_6 : decode b_Mo_isOpen 6 = .ok (.getfield 294, 3) := by decide +kernel
theorem d_Mo_isOpen_9 : decode b_Mo_isOpen 9 = .ok (.if_icmp .ge 30, 3) := by decide +kernel
theorem d_Mo_isOpen_12 : decode b_Mo_isOpen 12 = .ok (.iload_n 1, 1) := by decide +kernel
theorem d_Mo_isOpen_13 : decode b_Mo_isOpen 13 = .ok (.ifCond .ne 14, 3) := by decide +kernel
theorem d_Mo_isOpen_16 : decode b_Mo_isOpen 16 = .ok (.aload_n 0, 1) := by decide +kernel
theorem d_Mo_isOpen_17 : decode b_Mo_isOpen 17 = .ok (.getfield 82, 3) := by decide +kernel
theorem d_Mo_isOpen_20 : decode b_Mo_isOpen 20 = .ok (.iload_n 2, 1) := by decide +kernel
theorem d_Mo_isOpen_21 : decode b_Mo_isOpen 21 = .ok (.iaload, 1) := by decide +kernel
theorem d_Mo_isOpen_22 : decode b_Mo_isOpen 22 = .ok (.bipush 40, 2) := by decide +kernel
theorem d_Mo_isOpen_24 : decode b_Mo_isOpen 24 = .ok (.if_icmp .ne 7, 3) := by decide +kernel
theorem d_Mo_isOpen_27 : decode b_Mo_isOpen 27 = .ok (.iconst 1, 1) := by decide +kernel
theorem d_Mo_isOpen_28 : decode b_Mo_isOpen 28 = .ok (.goto 4, 3) := by decide +kernel
theorem d_Mo_isOpen_31 : decode b_Mo_isOpen 31 = .ok (.iconst 0, 1) := by decide +kernel
theorem d_Mo_isOpen_32 : decode b_Mo_isOpen 32 = .ok (.istore_n 1, 1) := by decide +kernel
theorem d_Mo_isOpen_33 : decode b_Mo_isOpen 33 = .ok (.iinc 2 1, 3) := by decide +kernel
theorem d_Mo_isOpen_36 : decode b_Mo_isOpen 36 = .ok (.goto (-32), 3) := by decide +kernel
theorem d_Mo_isOpen_39 : decode b_Mo_isOpen 39 = .ok (.iload_n 1, 1) := by decide +kernel
theorem d_Mo_isOpen_40 : decode b_Mo_isOpen 40 = .ok (.ireturn, 1) := by decide +kernel
theorem d_Mo_operator_0 : decode b_Mo_operator 0 = .ok (.aload_n 0, 1) := by decide +kernel
theorem d_Mo_operator_1 : decode b_Mo_operator 1 = .ok (.getfield 201, 3) := by decide +kernel
theorem d_Mo_operator_4 : decode b_Mo_operator 4 = .ok (.invokestatic 307, 3) := by decide +kernel
theorem d_Mo_operator_7 : decode b_Mo_operator 7 = .ok (.istore_n 1, 1) := by decide +kernel
theorem d_Mo_operator_8 : decode b_Mo_operator 8 = .ok (.iload_n 1, 1) := by decide +kernel
theorem d_Mo_operator_9 : decode b_Mo_operator 9 = .ok (.iconst 1, 1) := by decide +kernel
theorem d_Mo_operator_10 : decode b_Mo_operator 10 = .ok (.if_icmp .eq 8, 3) := by decide +kernel
theorem d_Mo_operator_13 : decode b_Mo_operator 13 = .ok (.iload_n 1, 1) := by decide +kernel
theorem d_Mo_operator_14 : decode b_Mo_operator 14 = .ok (.iconst 2, 1) := by decide +kernel
theorem d_Mo_operator_15 : decode b_Mo_operator 15 = .ok (.if_icmp .ne 59, 3) := by decide +kernel
theorem d_Mo_operator_18 : decode b_Mo_operator 18 = .ok (.aload_n 0, 1) := by decide +kernel
theorem d_Mo_operator_19 : decode b_Mo_operator 19 = .ok (.iload_n 1, 1) := by decide +kernel
theorem d_Mo_operator_20 : decode b_Mo_operator 20 = .ok (.invokevirtual 340, 3) := by decide +kernel
theorem d_Mo_operator_23 : decode b_Mo_operator 23 = .ok (.ifCond .ne 5, 3) := by decide +kernel
theorem d_Mo_operator_26 : decode b_Mo_operator 26 = .ok (.iconst 0, 1) := by decide +kernel
theorem d_Mo_operator_27 : decode b_Mo_operator 27 = .ok (.ireturn, 1) := by decide +kernel
theorem d_Mo_operator_28 : decode b_Mo_operator 28 = .ok (.aload_n 0, 1) := by decide +kernel
theorem d_Mo_operator_29 : decode b_Mo_operator 29 = .ok (.getfield 82, 3) := by decide +kernel
theorem d_Mo_operator_32 : decode b_Mo_operator 32 = .ok (.aload_n 0, 1) := by decide +kernel
theorem d_Mo_operator_33 : decode b_Mo_operator 33 = .ok (.getfield 294, 3) := by decide +kernel
theorem d_Mo_operator_36 : decode b_Mo_operator 36 = .ok (.aload_n 0, 1) := by decide +kernel
theorem d_Mo_operator_37 : decode b_Mo_operator 37 = .ok (.getfield 201, 3) := by decide +kernel
theorem d_Mo_operator_40 : decode b_Mo_operator 40 = .ok (.iastore, 1) := by decide +kernel
theorem d_Mo_operator_41 : decode b_Mo_operator 41 = .ok (.aload_n 0, 1) := by decide +kernel
theorem d_Mo_operator_42 : decode b_Mo_operator 42 = .ok (.getfield 85, 3) := by decide +kernel
theorem d_Mo_operator_45 : decode b_Mo_operator 45 = .ok (.aload_n 0, 1) := by decide +kernel
theorem d_Mo_operator_46 : decode b_Mo_operator 46 = .ok (.getfield 294, 3) := by decide +kernel
theorem d_Mo_operator_49 : decode b_Mo_operator 49 = .ok (.aload_n 0, 1) := by decide +kernel
theorem d_Mo_operator_50 : decode b_Mo_operator 50 = .ok (.getfield 195, 3) := by decide +kernel
theorem d_Mo_operator_53 : decode b_Mo_operator 53 = .ok (.iastore, 1) := by decide +kernel
theorem d_Mo_operator_54 : decode b_Mo_operator 54 = .ok (.aload_n 0, 1) := by decide +kernel
theorem d_Mo_operator_55 : decode b_Mo_operator 55 = .ok (.dup, 1) := by decide +kernel
theorem d_Mo_operator_56 : decode b_Mo_operator 56 = .ok (.getfield 294, 3) := by decide +kernel
theorem d_Mo_operator_59 : decode b_Mo_operator 59 = .ok (.iconst 1, 1) := by decide +kernel
theorem d_Mo_operator_60 : decode b_Mo_operator 60 = .ok (.iadd, 1) := by decide +kernel
theorem d_Mo_operator_61 : decode b_Mo_operator 61 = .ok (.putfield 294, 3) := by decide +kernel
theorem d_Mo_operator_64 : decode b_Mo_operator 64 = .ok (.aload_n 0, 1) := by decide +kernel
theorem d_Mo_operator_65 : decode b_Mo_operator 65 = .ok (.iconst 1, 1) := by decide +kernel
theorem d_Mo_operator_66 : decode b_Mo_operator 66 = .ok (.putfield 328, 3) := by decide +kernel
theorem d_Mo_operator_69 : decode b_Mo_operator 69 = .ok (.aload_n 0, 1) := by decide +kernel
theorem d_Mo_operator_70 : decode b_Mo_operator 70 = .ok (.invokevirtual 223, 3) := by decide +kernel
theorem d_Mo_operator_73 : decode b_Mo_operator 73 = .ok (.ireturn, 1) := by decide +kernel
theorem d_Mo_operator_74 : decode b_Mo_operator 74 = .ok (.aload_n 0, 1) := by decide +kernel
theorem d_Mo_operator_75 : decode b_Mo_operator 75 = .ok (.getfield 201, 3) := by decide +kernel
theorem d_Mo_operator_78 : decode b_Mo_operator 78 = .ok (.bipush 41, 2) := by decide +kernel
theorem d_Mo_operator_80 : decode b_Mo_operator 80 = .ok (.if_icmp .ne 10, 3) := by decide +kernel
theorem d_Mo_operator_83 : decode b_Mo_operator 83 = .ok (.aload_n 0, 1) := by decide +kernel
theorem d_Mo_operator_84 : decode b_Mo_operator 84 = .ok (.invokevirtual 343, 3) := by decide +kernel
theorem d_Mo_operator_87 : decode b_Mo_operator 87 = .ok (.ifCond .ne 13, 3) := by decide +kernel
theorem d_Mo_operator_90 : decode b_Mo_operator 90 = .ok (.aload_n 0, 1) := by decide +kernel
theorem d_Mo_operator_91 : decode b_Mo_operator 91 = .ok (.iconst 2, 1) := by decide +kernel
theorem d_Mo_operator_92 : decode b_Mo_operator 92 = .ok (.aload_n 0, 1) := by decide +kernel
theorem d_Mo_operator_93 : decode b_Mo_operator 93 = .ok (.getfield 195, 3) := by decide +kernel
theorem d_Mo_operator_96 : decode b_Mo_operator 96 = .ok (.invokevirtual 125, 3) := by decide +kernel
theorem d_Mo_operator_99 : decode b_Mo_operator 99 = .ok (.ireturn, 1) := by decide +kernel
theorem d_Mo_operator_100 : decode b_Mo_operator 100 = .ok (.aload_n 0, 1) := by decide +kernel
theorem d_Mo_operator_101 : decode b_Mo_operator 101 = .ok (.iconst 1, 1) := by decide +kernel
theorem d_Mo_operator_102 : decode b_Mo_operator 102 = .ok (.invokevirtual 340, 3) := by decide +kernel
theorem d_Mo_operator_105 : decode b_Mo_operator 105 = .ok (.ifCond .ne 5, 3) := by decide +kernel
theorem d_Mo_operator_108 : decode b_Mo_operator 108 = .ok (.iconst 0, 1) := by decide +kernel
theorem d_Mo_operator_109 : decode b_Mo_operator 109 = .ok (.ireturn, 1) := by decide +kernel
theorem d_Mo_operator_110 : decode b_Mo_operator 110 = .ok (.aload_n 0, 1) := by decide +kernel
theorem d_Mo_operator_111 : decode b_Mo_operator 111 = .ok (.dup, 1) := by decide +kernel
theorem d_Mo_operator_112 : decode b_Mo_operator 112 = .ok (.getfield 294, 3) := by decide +kernel
theorem d_Mo_operator_115 : decode b_Mo_operator 115 = .ok (.iconst 1, 1) := by decide +kernel
theorem d_Mo_operator_116 : decode b_Mo_operator 116 = .ok (.isub, 1) := by decide +kernel
theorem d_Mo_operator_117 : decode b_Mo_operator 117 = .ok (.putfield 294, 3) := by decide +kernel
theorem d_Mo_operator_120 : decode b_Mo_operator 120 = .ok (.aload_n 0, 1) := by decide +kernel
theorem d_Mo_operator_121 : decode b_Mo_operator 121 = .ok (.dup, 1) := by decide +kernel
theorem d_Mo_operator_122 : decode b_Mo_operator 122 = .ok (.getfield 291, 3) := by decide +kernel
theorem d_Mo_operator_125 : decode b_Mo_operator 125 = .ok (.iconst 1, 1) := by decide +kernel
theorem d_Mo_operator_126 : decode b_Mo_operator 126 = .ok (.isub, 1) := by decide +kernel
theorem d_Mo_operator_127 : decode b_Mo_operator 127 = .ok (.putfield 291, 3) := by decide +kernel
theorem d_Mo_operator_130 : decode b_Mo_operator 130 = .ok (.aload_n 0, 1) := by decide +kernel
theorem d_Mo_operator_131 : decode b_Mo_operator 131 = .ok (.invokevirtual 223, 3) := by decide +kernel
theorem d_Mo_operator_134 : decode b_Mo_operator 134 = .ok (.ifCond .eq 15, 3) := by decide +kernel
theorem d_Mo_operator_137 : decode b_Mo_operator 137 = .ok (.aload_n 0, 1) := by decide +kernel
theorem d_Mo_operator_138 : decode b_Mo_operator 138 = .ok (.iconst 3, 1) := by decide +kernel
theorem d_Mo_operator_139 : decode b_Mo_operator 139 = .ok (.invokevirtual 340, 3) := by decide +kernel
theorem d_Mo_operator_142 : decode b_Mo_operator 142 = .ok (.ifCond .eq 7, 3) := by decide +kernel
theorem d_Mo_operator_145 : decode b_Mo_operator 145 = .ok (.iconst 1, 1) := by decide +kernel
theorem d_Mo_operator_146 : decode b_Mo_operator 146 = .ok (.goto 4, 3) := by decide +kernel
theorem d_Mo_operator_149 : decode b_Mo_operator 149 = .ok (.iconst 0, 1) := by decide +kernel
theorem d_Mo_operator_150 : decode b_Mo_operator 150 = .ok (.ireturn, 1) := by decide +kernel
theorem d_Mo_question_0 : decode b_Mo_question 0 = .ok (.aload_n 0, 1) := by decide +kernel
theorem d_Mo_question_1 : decode b_Mo_question 1 = .ok (.iload_n 1, 1) := by decide +kernel
theorem d_Mo_question_2 : decode b_Mo_question 2 = .ok (.putfield 297, 3) := by decide +kernel
theorem d_Mo_question_5 : decode b_Mo_question 5 = .ok (.aload_n 0, 1) := by decide +kernel
theorem d_Mo_question_6 : decode b_Mo_question 6 = .ok (.iconst 0, 1) := by decide +kernel
theorem d_Mo_question_7 : decode b_Mo_question 7 = .ok (.putfield 253, 3) := by decide +kernel
theorem d_Mo_question_10 : decode b_Mo_question 10 = .ok (.aload_n 0, 1) := by decide +kernel
theorem d_Mo_question_11 : decode b_Mo_question 11 = .ok (.iconst 0, 1) := by decide +kernel
theorem d_Mo_question_12 : decode b_Mo_question 12 = .ok (.putfield 294, 3) := by decide +kernel
theorem d_Mo_question_15 : decode b_Mo_question 15 = .ok (.aload_n 0, 1) := by decide +kernel
theorem d_Mo_question_16 : decode b_Mo_question 16 = .ok (.iconst 0, 1) := by decide +kernel
theorem d_Mo_question_17 : decode b_Mo_question 17 = .ok (.putfield 291, 3) := by decide +kernel
theorem d_Mo_question_20 : decode b_Mo_question 20 = .ok (.aload_n 0, 1) := by decide +kernel
theorem d_Mo_question_21 : decode b_Mo_question 21 = .ok (.iconst 0, 1) := by decide +kernel
theorem d_Mo_question_22 : decode b_Mo_question 22 = .ok (.putfield 192, 3) := by decide +kernel
theorem d_Mo_question_25 : decode b_Mo_question 25 = .ok (.aload_n 0, 1) := by decide +kernel
theorem d_Mo_question_26 : decode b_Mo_question 26 = .ok (.iconst 1, 1) := by decide +kernel
theorem d_Mo_question_27 : decode b_Mo_question 27 = .ok (.putfield 328, 3) := by decide +kernel
theorem d_Mo_question_30 : decode b_Mo_question 30 = .ok (.aload_n 0, 1) := by decide +kernel
theorem d_Mo_question_31 : decode b_Mo_question 31 = .ok (.invokevirtual 223, 3) := by decide +kernel
theorem d_Mo_question_34 : decode b_Mo_question 34 = .ok (.istore_n 2, 1) := by decide +kernel
theorem d_Mo_question_35 : decode b_Mo_question 35 = .ok (.iload_n 2, 1) := by decide +kernel
theorem d_Mo_question_36 : decode b_Mo_question 36 = .ok (.ifCond .eq 39, 3) := by decide +kernel
theorem d_Mo_question_39 : decode b_Mo_question 39 = .ok (.aload_n 0, 1) := by decide +kernel
theorem d_Mo_question_40 : decode b_Mo_question 40 = .ok (.getfield 201, 3) := by decide +kernel
theorem d_Mo_question_43 : decode b_Mo_question 43 = .ok (.ifCond .ne 10, 3) := by decide +kernel
theorem d_Mo_question_46 : decode b_Mo_question 46 = .ok (.aload_n 0, 1) := by decide +kernel
theorem d_Mo_question_47 : decode b_Mo_question 47 = .ok (.getfield 328, 3) := by decide +kernel
theorem d_Mo_question_50 : decode b_Mo_question 50 = .ok (.ifCond .eq 25, 3) := by decide +kernel
theorem d_Mo_question_53 : decode b_Mo_question 53 = .ok (.aload_n 0, 1) := by decide +kernel
theorem d_Mo_question_54 : decode b_Mo_question 54 = .ok (.getfield 328, 3) := by decide +kernel
theorem d_Mo_question_57 : decode b_Mo_question 57 = .ok (.ifCond .eq 10, 3) := by decide +kernel
theorem d_Mo_question_60 : decode b_Mo_question 60 = .ok (.aload_n 0, 1) := by decide +kernel
theorem d_Mo_question_61 : decode b_Mo_question 61 = .ok (.invokevirtual 346, 3) := by decide +kernel
theorem d_Mo_question_64 : decode b_Mo_question 64 = .ok (.goto 7, 3) := by decide +kernel
theorem d_Mo_question_67 : decode b_Mo_question 67 = .ok (.aload_n 0, 1) := by decide +kernel
theorem d_Mo_question_68 : decode b_Mo_question 68 = .ok (.invokevirtual 349, 3) := by decide +kernel
theorem d_Mo_question_71 : decode b_Mo_question 71 = .ok (.istore_n 2, 1) := by decide +kernel
theorem d_Mo_question_72 : decode b_Mo_question 72 = .ok (.goto (-37), 3) := by decide +kernel
theorem d_Mo_question_75 : decode b_Mo_question 75 = .ok (.iload_n 2, 1) := by decide +kernel
theorem d_Mo_question_76 : decode b_Mo_question 76 = .ok (.ifCond .eq 20, 3) := by decide +kernel
theorem d_Mo_question_79 : decode b_Mo_question 79 = .ok (.aload_n 0, 1) := by decide +kernel
theorem d_Mo_question_80 : decode b_Mo_question 80 = .ok (.invokevirtual 343, 3) := by decide +kernel
theorem d_Mo_question_83 : decode b_Mo_question 83 = .ok (.ifCond .eq 13, 3) := by decide +kernel
theorem d_Mo_question_86 : decode b_Mo_question 86 = .ok (.aload_n 0, 1) := by decide +kernel
theorem d_Mo_question_87 : decode b_Mo_question 87 = .ok (.iconst 2, 1) := by decide +kernel
theorem d_Mo_question_88 : decode b_Mo_question 88 = .ok (.aload_n 0, 1) := by decide +kernel
theorem d_Mo_question_89 : decode b_Mo_question 89 = .ok (.getfield 195, 3) := by decide +kernel
theorem d_Mo_question_92 : decode b_Mo_question 92 = .ok (.invokevirtual 125, 3) := by decide +kernel
theorem d_Mo_question_95 : decode b_Mo_question 95 = .ok (.ireturn, 1) := by decide +kernel
theorem d_Mo_question_96 : decode b_Mo_question 96 = .ok (.iload_n 2, 1) := by decide +kernel
theorem d_Mo_question_97 : decode b_Mo_question 97 = .ok (.ifCond .eq 15, 3) := by decide +kernel
theorem d_Mo_question_100 : decode b_Mo_question 100 = .ok (.aload_n 0, 1) := by decide +kernel
theorem d_Mo_question_101 : decode b_Mo_question 101 = .ok (.iconst 1, 1) := by decide +kernel
theorem d_Mo_question_102 : decode b_Mo_question 102 = .ok (.invokevirtual 340, 3) := by decide +kernel
theorem d_Mo_question_105 : decode b_Mo_question 105 = .ok (.ifCond .eq 7, 3) := by decide +kernel
theorem d_Mo_question_108 : decode b_Mo_question 108 = .ok (.iconst 1, 1) := by decide +kernel
theorem d_Mo_question_109 : decode b_Mo_question 109 = .ok (.goto 4, 3) := by decide +kernel
theorem d_Mo_question_112 : decode b_Mo_question 112 = .ok (.iconst 0, 1) := by decide +kernel
theorem d_Mo_question_113 : decode b_Mo_question 113 = .ok (.ireturn, 1) := by decide +kernel
theorem d_Mo_keepTable_0 : decode b_Mo_keepTable 0 = .ok (.aload_n 0, 1) := by decide +kernel
theorem d_Mo_keepTable_1 : decode b_Mo_keepTable 1 = .ok (.iconst 1, 1) := by decide +kernel
theorem d_Mo_keepTable_2 : decode b_Mo_keepTable 2 = .ok (.putfield 352, 3) := by decide +kernel
theorem d_Mo_keepTable_5 : decode b_Mo_keepTable 5 = .ok (.aload_n 0, 1) := by decide +kernel
theorem d_Mo_keepTable_6 : decode b_Mo_keepTable 6 = .ok (.aload_n 0, 1) := by decide +kernel
theorem d_Mo_keepTable_7 : decode b_Mo_keepTable 7 = .ok (.getfield 41, 3) := by decide +kernel
theorem d_Mo_keepTable_10 : decode b_Mo_keepTable 10 = .ok (.iconst 0, 1) := by decide +kernel
theorem d_Mo_keepTable_11 : decode b_Mo_keepTable 11 = .ok (.iaload, 1) := by decide +kernel
theorem d_Mo_keepTable_12 : decode b_Mo_keepTable 12 = .ok (.putfield 355, 3) := by decide +kernel
theorem d_Mo_keepTable_15 : decode b_Mo_keepTable 15 = .ok (.aload_n 0, 1) := by decide +kernel
theorem d_Mo_keepTable_16 : decode b_Mo_keepTable 16 = .ok (.aload_n 0, 1) := by decide +kernel
theorem d_Mo_keepTable_17 : decode b_Mo_keepTable 17 = .ok (.getfield 50, 3) := by decide +kernel
theorem d_Mo_keepTable_20 : decode b_Mo_keepTable 20 = .ok (.iconst 0, 1) := by decide +kernel
theorem d_Mo_keepTable_21 : decode b_Mo_keepTable 21 = .ok (.iaload, 1) := by decide +kernel
theorem d_Mo_keepTable_22 : decode b_Mo_keepTable 22 = .ok (.putfield 358, 3) := by decide +kernel
theorem d_Mo_keepTable_25 : decode b_Mo_keepTable 25 = .ok (.aload_n 0, 1) := by decide +kernel
theorem d_Mo_keepTable_26 : decode b_Mo_keepTable 26 = .ok (.aload_n 0, 1) := by decide +kernel
theorem d_Mo_keepTable_27 : decode b_Mo_keepTable 27 = .ok (.getfield 234, 3) := by decide +kernel
theorem d_Mo_keepTable_30 : decode b_Mo_keepTable 30 = .ok (.putfield 361, 3) := by decide +kernel
theorem d_Mo_keepTable_33 : decode b_Mo_keepTable 33 = .ok (.iconst 0, 1) := by decide +kernel
theorem d_Mo_keepTable_34 : decode b_Mo_keepTable 34 = .ok (.istore_n 1, 1) := by decide +kernel
theorem d_Mo_keepTable_35 : decode b_Mo_keepTable 35 = .ok (.iload_n 1, 1) := by decide +kernel
theorem d_Mo_keepTable_36 : decode b_Mo_keepTable 36 = .ok (.aload_n 0, 1) := by decide +kernel
theorem d_Mo_keepTable_37 : decode b_Mo_keepTable 37 = .ok (.getfield 358, 3) := by decide +kernel
theorem d_Mo_keepTable_40 : decode b_Mo_keepTable 40 = .ok (.if_icmp .ge 169, 3) := by decide +kernel
theorem d_Mo_keepTable_43 : decode b_Mo_keepTable 43 = .ok (.iconst 0, 1) := by decide +kernel
theorem d_Mo_keepTable_44 : decode b_Mo_keepTable 44 = .ok (.istore_n 2, 1) := by decide +kernel
theorem d_Mo_keepTable_45 : decode b_Mo_keepTable 45 = .ok (.iload_n 2, 1) := by decide +kernel
theorem d_Mo_keepTable_46 : decode b_Mo_keepTable 46 = .ok (.aload_n 0, 1) := by decide +kernel
theorem d_Mo_keepTable_47 : decode b_Mo_keepTable 47 = .ok (.getfield 355, 3) := by decide +kernel
theorem d_Mo_keepTable_50 : decode b_Mo_keepTable 50 = .ok (.if_icmp .ge 91, 3) := by decide +kernel
theorem d_Mo_keepTable_53 : decode b_Mo_keepTable 53 = .ok (.aload_n 0, 1) := by decide +kernel
theorem d_Mo_keepTable_54 : decode b_Mo_keepTable 54 = .ok (.aload_n 0, 1) := by decide +kernel
theorem d_Mo_keepTable_55 : decode b_Mo_keepTable 55 = .ok (.getfield 53, 3) := by decide +kernel
theorem d_Mo_keepTable_58 : decode b_Mo_keepTable 58 = .ok (.iload_n 1, 1) := by decide +kernel
theorem d_Mo_keepTable_59 : decode b_Mo_keepTable 59 = .ok (.iaload, 1) := by decide +kernel
theorem d_Mo_keepTable_60 : decode b_Mo_keepTable 60 = .ok (.aload_n 0, 1) := by decide +kernel
theorem d_Mo_keepTable_61 : decode b_Mo_keepTable 61 = .ok (.getfield 44, 3) := by decide +kernel
theorem d_Mo_keepTable_64 : decode b_Mo_keepTable 64 = .ok (.iload_n 2, 1) := by decide +kernel
theorem d_Mo_keepTable_65 : decode b_Mo_keepTable 65 = .ok (.iaload, 1) := by decide +kernel
theorem d_Mo_keepTable_66 : decode b_Mo_keepTable 66 = .ok (.aload_n 0, 1) := by decide +kernel
theorem d_Mo_keepTable_67 : decode b_Mo_keepTable 67 = .ok (.getfield 47, 3) := by decide +kernel
theorem d_Mo_keepTable_70 : decode b_Mo_keepTable 70 = .ok (.iload_n 2, 1) := by decide +kernel
theorem d_Mo_keepTable_71 : decode b_Mo_keepTable 71 = .ok (.iaload, 1) := by decide +kernel
theorem d_Mo_keepTable_72 : decode b_Mo_keepTable 72 = .ok (.invokevirtual 240, 3) := by decide +kernel
theorem d_Mo_keepTable_75 : decode b_Mo_keepTable 75 = .ok (.istore_n 3, 1) := by decide +kernel
theorem d_Mo_keepTable_76 : decode b_Mo_keepTable 76 = .ok (.aload_n 0, 1) := by decide +kernel
theorem d_Mo_keepTable_77 : decode b_Mo_keepTable 77 = .ok (.getfield 92, 3) := by decide +kernel
theorem d_Mo_keepTable_80 : decode b_Mo_keepTable 80 = .ok (.bipush 6, 2) := by decide +kernel
theorem d_Mo_keepTable_82 : decode b_Mo_keepTable 82 = .ok (.iload_n 1, 1) := by decide +kernel
theorem d_Mo_keepTable_83 : decode b_Mo_keepTable 83 = .ok (.imul, 1) := by decide +kernel
theorem d_Mo_keepTable_84 : decode b_Mo_keepTable 84 = .ok (.iload_n 2, 1) := by decide +kernel
theorem d_Mo_keepTable_85 : decode b_Mo_keepTable 85 = .ok (.iadd, 1) := by decide +kernel
theorem d_Mo_keepTable_86 : decode b_Mo_keepTable 86 = .ok (.aload_n 0, 1) := by decide +kernel
theorem d_Mo_keepTable_87 : decode b_Mo_keepTable 87 = .ok (.getfield 237, 3) := by decide +kernel
theorem d_Mo_keepTable_90 : decode b_Mo_keepTable 90 = .ok (.iastore, 1) := by decide +kernel
theorem d_Mo_keepTable_91 : decode b_Mo_keepTable 91 = .ok (.iconst 0, 1) := by decide +kernel
theorem d_Mo_keepTable_92 : decode b_Mo_keepTable 92 = .ok (.istore 4, 2) := by decide +kernel
theorem d_Mo_keepTable_94 : decode b_Mo_keepTable 94 = .ok (.iload 4, 2) := by decide +kernel
theorem d_Mo_keepTable_96 : decode b_Mo_keepTable 96 = .ok (.aload_n 0, 1) := by decide +kernel
theorem d_Mo_keepTable_97 : decode b_Mo_keepTable 97 = .ok (.getfield 237, 3) := by decide +kernel
theorem d_Mo_keepTable_100 : decode b_Mo_keepTable 100 = .ok (.if_icmp .ge 35, 3) := by decide +kernel
theorem d_Mo_keepTable_103 : decode b_Mo_keepTable 103 = .ok (.aload_n 0, 1) := by decide +kernel
theorem d_Mo_keepTable_104 : decode b_Mo_keepTable 104 = .ok (.getfield 89, 3) := by decide +kernel
theorem d_Mo_keepTable_107 : decode b_Mo_keepTable 107 = .ok (.bipush 6, 2) := by decide +kernel
theorem d_Mo_keepTable_109 : decode b_Mo_keepTable 109 = .ok (.iload_n 1, 1) := by decide +kernel
theorem d_Mo_keepTable_110 : decode b_Mo_keepTable 110 = .ok (.imul, 1) := by decide +kernel
theorem d_Mo_keepTable_111 : decode b_Mo_keepTable 111 = .ok (.iload_n 2, 1) := by decide +kernel
theorem d_Mo_keepTable_112 : decode b_Mo_keepTable 112 = .ok (.iadd, 1) := by decide +kernel
theorem d_Mo_keepTable_113 : decode b_Mo_keepTable 113 = .ok (.bipush 24, 2) := by decide +kernel
theorem d_Mo_keepTable_115 : decode b_Mo_keepTable 115 = .ok (.imul, 1) := by decide +kernel
theorem d_Mo_keepTable_116 : decode b_Mo_keepTable 116 = .ok (.iload 4, 2) := by decide +kernel
theorem d_Mo_keepTable_118 : decode b_Mo_keepTable 118 = .ok (.iadd, 1) := by decide +kernel
theorem d_Mo_keepTable_119 : decode b_Mo_keepTable 119 = .ok (.aload_n 0, 1) := by decide +kernel
theorem d_Mo_keepTable_120 : decode b_Mo_keepTable 120 = .ok (.getfield 15, 3) := by decide +kernel
theorem d_Mo_keepTable_123 : decode b_Mo_keepTable 123 = .ok (.iload_n 3, 1) := by decide +kernel
theorem d_Mo_keepTable_124 : decode b_Mo_keepTable 124 = .ok (.iload 4, 2) := by decide +kernel
theorem d_Mo_keepTable_126 : decode b_Mo_keepTable 126 = .ok (.iadd, 1) := by decide +kernel
theorem d_Mo_keepTable_127 : decode b_Mo_keepTable 127 = .ok (.baload, 1) := by decide +kernel
theorem d_Mo_keepTable_128 : decode b_Mo_keepTable 128 = .ok (.bastore, 1) := by decide +kernel
theorem d_Mo_keepTable_129 : decode b_Mo_keepTable 129 = .ok (.iinc 4 1, 3) := by decide +kernel
theorem d_Mo_keepTable_132 : decode b_Mo_keepTable 132 = .ok (.goto (-38), 3) := by decide +kernel
theorem d_Mo_keepTable_135 : decode b_Mo_keepTable 135 = .ok (.iinc 2 1, 3) := by decide +kernel
theorem d_Mo_keepTable_138 : decode b_Mo_keepTable 138 = .ok (.goto (-93), 3) := by decide +kernel
theorem d_Mo_keepTable_141 : decode b_Mo_keepTable 141 = .ok (.iconst 0, 1) := by decide +kernel
theorem d_Mo_keepTable_142 : decode b_Mo_keepTable 142 = .ok (.istore_n 2, 1) := by decide +kernel
theorem d_Mo_keepTable_143 : decode b_Mo_keepTable 143 = .ok (.iload_n 2, 1) := by decide +kernel
theorem d_Mo_keepTable_144 : decode b_Mo_keepTable 144 = .ok (.aload_n 0, 1) := by decide +kernel
theorem d_Mo_keepTable_145 : decode b_Mo_keepTable 145 = .ok (.getfield 234, 3) := by decide +kernel
theorem d_Mo_keepTable_148 : decode b_Mo_keepTable 148 = .ok (.if_icmp .ge 55, 3) := by decide +kernel
theorem d_Mo_keepTable_151 : decode b_Mo_keepTable 151 = .ok (.aload_n 0, 1) := by decide +kernel
theorem d_Mo_keepTable_152 : decode b_Mo_keepTable 152 = .ok (.getfield 95, 3) := by decide +kernel
theorem d_Mo_keepTable_155 : decode b_Mo_keepTable 155 = .ok (.bipush 64, 2) := by decide +kernel
theorem d_Mo_keepTable_157 : decode b_Mo_keepTable 157 = .ok (.iload_n 1, 1) := by decide +kernel
theorem d_Mo_keepTable_158 : decode b_Mo_keepTable 158 = .ok (.imul, 1) := by decide +kernel
theorem d_Mo_keepTable_159 : decode b_Mo_keepTable 159 = .ok (.iload_n 2, 1) := by decide +kernel
theorem d_Mo_keepTable_160 : decode b_Mo_keepTable 160 = .ok (.iadd, 1) := by decide +kernel
theorem d_Mo_keepTable_161 : decode b_Mo_keepTable 161 = .ok (.aload_n 0, 1) := by decide +kernel
theorem d_Mo_keepTable_162 : decode b_Mo_keepTable 162 = .ok (.getfield 57, 3) := by decide +kernel
theorem d_Mo_keepTable_165 : decode b_Mo_keepTable 165 = .ok (.aload_n 0, 1) := by decide +kernel
theorem d_Mo_keepTable_166 : decode b_Mo_keepTable 166 = .ok (.iconst 0, 1) := by decide +kernel
theorem d_Mo_keepTable_167 : decode b_Mo_keepTable 167 = .ok (.iload_n 1, 1) := by decide +kernel
theorem d_Mo_keepTable_168 : decode b_Mo_keepTable 168 = .ok (.iload_n 2, 1) := by decide +kernel
theorem d_Mo_keepTable_169 : decode b_Mo_keepTable 169 = .ok (.invokevirtual 250, 3) := by decide +kernel
theorem d_Mo_keepTable_172 : decode b_Mo_keepTable 172 = .ok (.laload, 1) := by decide +kernel
theorem d_Mo_keepTable_173 : decode b_Mo_keepTable 173 = .ok (.lastore, 1) := by decide +kernel
theorem d_Mo_keepTable_174 : decode b_Mo_keepTable 174 = .ok (.aload_n 0, 1) := by decide +kernel
theorem d_Mo_keepTable_175 : decode b_Mo_keepTable 175 = .ok (.getfield 98, 3) := by decide +kernel
theorem d_Mo_keepTable_178 : decode b_Mo_keepTable 178 = .ok (.bipush 64, 2) := by decide +kernel
theorem d_Mo_keepTable_180 : decode b_Mo_keepTable 180 = .ok (.iload_n 1, 1) := by decide +kernel
theorem d_Mo_keepTable_181 : decode b_Mo_keepTable 181 = .ok (.imul, 1) := by decide +kernel
theorem d_Mo_keepTable_182 : decode b_Mo_keepTable 182 = .ok (.iload_n 2, 1) := by decide +kernel
theorem d_Mo_keepTable_183 : decode b_Mo_keepTable 183 = .ok (.iadd, 1) := by decide +kernel
theorem d_Mo_keepTable_184 : decode b_Mo_keepTable 184 = .ok (.aload_n 0, 1) := by decide +kernel
theorem d_Mo_keepTable_185 : decode b_Mo_keepTable 185 = .ok (.getfield 60, 3) := by decide +kernel
theorem d_Mo_keepTable_188 : decode b_Mo_keepTable 188 = .ok (.aload_n 0, 1) := by decide +kernel
theorem d_Mo_keepTable_189 : decode b_Mo_keepTable 189 = .ok (.iconst 0, 1) := by decide +kernel
theorem d_Mo_keepTable_190 : decode b_Mo_keepTable 190 = .ok (.iload_n 1, 1) := by decide +kernel
theorem d_Mo_keepTable_191 : decode b_Mo_keepTable 191 = .ok (.iload_n 2, 1) := by decide +kernel
theorem d_Mo_keepTable_192 : decode b_Mo_keepTable 192 = .ok (.invokevirtual 250, 3) := by decide +kernel
theorem d_Mo_keepTable_195 : decode b_Mo_keepTable 195 = .ok (.baload, 1) := by decide +kernel
theorem d_Mo_keepTable_196 : decode b_Mo_keepTable 196 = .ok (.bastore, 1) := by decide +kernel
theorem d_Mo_keepTable_197 : decode b_Mo_keepTable 197 = .ok (.iinc 2 1, 3) := by decide +kernel
theorem d_Mo_keepTable_200 : decode b_Mo_keepTable 200 = .ok (.goto (-57), 3) := by decide +kernel
theorem d_Mo_keepTable_203 : decode b_Mo_keepTable 203 = .ok (.iinc 1 1, 3) := by decide +kernel
theorem d_Mo_keepTable_206 : decode b_Mo_keepTable 206 = .ok (.goto (-171), 3) := by decide +kernel
theorem d_Mo_keepTable_209 : decode b_Mo_keepTable 209 = .ok (.return_, 1) := by decide +kernel
theorem d_Mo_ask_0 : decode b_Mo_ask 0 = .ok (.aload_n 0, 1) := by decide +kernel
theorem d_Mo_ask_1 : decode b_Mo_ask 1 = .ok (.lload_n 1, 1) := by decide +kernel
theorem d_Mo_ask_2 : decode b_Mo_ask 2 = .ok (.lconst 0, 1) := by decide +kernel
theorem d_Mo_ask_3 : decode b_Mo_ask 3 = .ok (.lcmp, 1) := by decide +kernel
theorem d_Mo_ask_4 : decode b_Mo_ask 4 = .ok (.ifCond .lt 38, 3) := by decide +kernel
theorem d_Mo_ask_7 : decode b_Mo_ask 7 = .ok (.lload_n 1, 1) := by decide +kernel
theorem d_Mo_ask_8 : decode b_Mo_ask 8 = .ok (.ldc2_w 155, 3) := by decide +kernel
theorem d_Mo_ask_11 : decode b_Mo_ask 11 = .ok (.lcmp, 1) := by decide +kernel
theorem d_Mo_ask_12 : decode b_Mo_ask 12 = .ok (.ifCond .gt 30, 3) := by decide +kernel
theorem d_Mo_ask_15 : decode b_Mo_ask 15 = .ok (.lload_n 3, 1) := by decide +kernel
theorem d_Mo_ask_16 : decode b_Mo_ask 16 = .ok (.lconst 1, 1) := by decide +kernel
theorem d_Mo_ask_17 : decode b_Mo_ask 17 = .ok (.lcmp, 1) := by decide +kernel
theorem d_Mo_ask_18 : decode b_Mo_ask 18 = .ok (.ifCond .lt 24, 3) := by decide +kernel
theorem d_Mo_ask_21 : decode b_Mo_ask 21 = .ok (.lload_n 3, 1) := by decide +kernel
theorem d_Mo_ask_22 : decode b_Mo_ask 22 = .ok (.ldc2_w 155, 3) := by decide +kernel
theorem d_Mo_ask_25 : decode b_Mo_ask 25 = .ok (.lcmp, 1) := by decide +kernel
theorem d_Mo_ask_26 : decode b_Mo_ask 26 = .ok (.ifCond .gt 16, 3) := by decide +kernel
theorem d_Mo_ask_29 : decode b_Mo_ask 29 = .ok (.iload 5, 2) := by decide +kernel
theorem d_Mo_ask_31 : decode b_Mo_ask 31 = .ok (.iconst 1, 1) := by decide +kernel
theorem d_Mo_ask_32 : decode b_Mo_ask 32 = .ok (.if_icmp .lt 10, 3) := by decide +kernel
theorem d_Mo_ask_35 : decode b_Mo_ask 35 = .ok (.iload 5, 2) := by decide +kernel
theorem d_Mo_ask_37 : decode b_Mo_ask 37 = .ok (.bipush 64, 2) := by decide +kernel
theorem d_Mo_ask_39 : decode b_Mo_ask 39 = .ok (.if_icmp .le 7, 3) := by decide +kernel
theorem d_Mo_ask_42 : decode b_Mo_ask 42 = .ok (.iconst 1, 1) := by decide +kernel
theorem d_Mo_ask_43 : decode b_Mo_ask 43 = .ok (.goto 4, 3) := by decide +kernel
theorem d_Mo_ask_46 : decode b_Mo_ask 46 = .ok (.iconst 0, 1) := by decide +kernel
theorem d_Mo_ask_47 : decode b_Mo_ask 47 = .ok (.putfield 101, 3) := by decide +kernel
theorem d_Mo_ask_50 : decode b_Mo_ask 50 = .ok (.aload_n 0, 1) := by decide +kernel
theorem d_Mo_ask_51 : decode b_Mo_ask 51 = .ok (.getfield 101, 3) := by decide +kernel
theorem d_Mo_ask_54 : decode b_Mo_ask 54 = .ok (.ifCond .le 5, 3) := by decide +kernel
theorem d_Mo_ask_57 : decode b_Mo_ask 57 = .ok (.iconst 0, 1) := by decide +kernel
theorem d_Mo_ask_58 : decode b_Mo_ask 58 = .ok (.ireturn, 1) := by decide +kernel
theorem d_Mo_ask_59 : decode b_Mo_ask 59 = .ok (.aload_n 0, 1) := by decide +kernel
theorem d_Mo_ask_60 : decode b_Mo_ask 60 = .ok (.iconst 0, 1) := by decide +kernel
theorem d_Mo_ask_61 : decode b_Mo_ask 61 = .ok (.putfield 108, 3) := by decide +kernel
theorem d_Mo_ask_64 : decode b_Mo_ask 64 = .ok (.aload_n 0, 1) := by decide +kernel
theorem d_Mo_ask_65 : decode b_Mo_ask 65 = .ok (.iconst 0, 1) := by decide +kernel
theorem d_Mo_ask_66 : decode b_Mo_ask 66 = .ok (.putfield 111, 3) := by decide +kernel
theorem d_Mo_ask_69 : decode b_Mo_ask 69 = .ok (.aload_n 0, 1) := by decide +kernel
theorem d_Mo_ask_70 : decode b_Mo_ask 70 = .ok (.lload_n 1, 1) := by decide +kernel
theorem d_Mo_ask_71 : decode b_Mo_ask 71 = .ok (.putfield 263, 3) := by decide +kernel
theorem d_Mo_ask_74 : decode b_Mo_ask 74 = .ok (.aload_n 0, 1) := by decide +kernel
theorem d_Mo_ask_75 : decode b_Mo_ask 75 = .ok (.lload_n 3, 1) := by decide +kernel
theorem d_Mo_ask_76 : decode b_Mo_ask 76 = .ok (.putfield 266, 3) := by decide +kernel
theorem d_Mo_ask_79 : decode b_Mo_ask 79 = .ok (.aload_n 0, 1) := by decide +kernel
theorem d_Mo_ask_80 : decode b_Mo_ask 80 = .ok (.iload 5, 2) := by decide +kernel
theorem d_Mo_ask_82 : decode b_Mo_ask 82 = .ok (.putfield 234, 3) := by decide +kernel
theorem d_Mo_ask_85 : decode b_Mo_ask 85 = .ok (.aload_n 0, 1) := by decide +kernel
theorem d_Mo_ask_86 : decode b_Mo_ask 86 = .ok (.iconst 0, 1) := by decide +kernel
theorem d_Mo_ask_87 : decode b_Mo_ask 87 = .ok (.putfield 352, 3) := by decide +kernel
theorem d_Mo_ask_90 : decode b_Mo_ask 90 = .ok (.aload_n 0, 1) := by decide +kernel
theorem d_Mo_ask_91 : decode b_Mo_ask 91 = .ok (.iconst 0, 1) := by decide +kernel
theorem d_Mo_ask_92 : decode b_Mo_ask 92 = .ok (.invokevirtual 364, 3) := by decide +kernel
theorem d_Mo_ask_95 : decode b_Mo_ask 95 = .ok (.ifCond .eq 15, 3) := by decide +kernel
theorem d_Mo_ask_98 : decode b_Mo_ask 98 = .ok (.aload_n 0, 1) := by decide +kernel
theorem d_Mo_ask_99 : decode b_Mo_ask 99 = .ok (.iconst 1, 1) := by decide +kernel
theorem d_Mo_ask_100 : decode b_Mo_ask 100 = .ok (.invokevirtual 364, 3) := by decide +kernel
theorem d_Mo_ask_103 : decode b_Mo_ask 103 = .ok (.ifCond .eq 7, 3) := by decide +kernel
theorem d_Mo_ask_106 : decode b_Mo_ask 106 = .ok (.iconst 1, 1) := by decide +kernel
theorem d_Mo_ask_107 : decode b_Mo_ask 107 = .ok (.goto 4, 3) := by decide +kernel
theorem d_Mo_ask_110 : decode b_Mo_ask 110 = .ok (.iconst 0, 1) := by decide +kernel
theorem d_Mo_ask_111 : decode b_Mo_ask 111 = .ok (.istore 6, 2) := by decide +kernel
theorem d_Mo_ask_113 : decode b_Mo_ask 113 = .ok (.iload 6, 2) := by decide +kernel
theorem d_Mo_ask_115 : decode b_Mo_ask 115 = .ok (.ifCond .eq 7, 3) := by decide +kernel
theorem d_Mo_ask_118 : decode b_Mo_ask 118 = .ok (.aload_n 0, 1) := by decide +kernel
theorem d_Mo_ask_119 : decode b_Mo_ask 119 = .ok (.invokevirtual 368, 3) := by decide +kernel
theorem d_Mo_ask_122 : decode b_Mo_ask 122 = .ok (.aload_n 0, 1) := by decide +kernel
theorem d_Mo_ask_123 : decode b_Mo_ask 123 = .ok (.iconst 0, 1) := by decide +kernel
theorem d_Mo_ask_124 : decode b_Mo_ask 124 = .ok (.putfield 105, 3) := by decide +kernel
theorem d_Mo_ask_127 : decode b_Mo_ask 127 = .ok (.iload 6, 2) := by decide +kernel
theorem d_Mo_ask_129 : decode b_Mo_ask 129 = .ok (.ifCond .eq 10, 3) := by decide +kernel
theorem d_Mo_ask_132 : decode b_Mo_ask 132 = .ok (.aload_n 0, 1) := by decide +kernel
theorem d_Mo_ask_133 : decode b_Mo_ask 133 = .ok (.getfield 358, 3) := by decide +kernel
theorem d_Mo_ask_136 : decode b_Mo_ask 136 = .ok (.goto 4, 3) := by decide +kernel
theorem d_Mo_ask_139 : decode b_Mo_ask 139 = .ok (.iconst (-1), 1) := by decide +kernel
theorem d_Mo_ask_140 : decode b_Mo_ask 140 = .ok (.ireturn, 1) := by decide +kernel
theorem d_Mo_names_0 : decode b_Mo_names 0 = .ok (.aload_n 0, 1) := by decide +kernel
theorem d_Mo_names_1 : decode b_Mo_names 1 = .ok (.iconst 0, 1) := by decide +kernel
theorem d_Mo_names_2 : decode b_Mo_names 2 = .ok (.putfield 101, 3) := by decide +kernel
theorem d_Mo_names_5 : decode b_Mo_names 5 = .ok (.aload_n 0, 1) := by decide +kernel
theorem d_Mo_names_6 : decode b_Mo_names 6 = .ok (.getfield 352, 3) := by decide +kernel
theorem d_Mo_names_9 : decode b_Mo_names 9 = .ok (.ifCond .eq 10, 3) := by decide +kernel
theorem d_Mo_names_12 : decode b_Mo_names 12 = .ok (.aload_n 0, 1) := by decide +kernel
theorem d_Mo_names_13 : decode b_Mo_names 13 = .ok (.getfield 355, 3) := by decide +kernel
theorem d_Mo_names_16 : decode b_Mo_names 16 = .ok (.goto 4, 3) := by decide +kernel
theorem d_Mo_names_19 : decode b_Mo_names 19 = .ok (.iconst (-1), 1) := by decide +kernel
theorem d_Mo_names_20 : decode b_Mo_names 20 = .ok (.ireturn, 1) := by decide +kernel
theorem d_Mo_isRow_0 : decode b_Mo_isRow 0 = .ok (.aload_n 0, 1) := by decide +kernel
theorem d_Mo_isRow_1 : decode b_Mo_isRow 1 = .ok (.getfield 352, 3) := by decide +kernel
theorem d_Mo_isRow_4 : decode b_Mo_isRow 4 = .ok (.ifCond .eq 19, 3) := by decide +kernel
theorem d_Mo_isRow_7 : decode b_Mo_isRow 7 = .ok (.iload_n 1, 1) := by decide +kernel
theorem d_Mo_isRow_8 : decode b_Mo_isRow 8 = .ok (.ifCond .lt 15, 3) := by decide +kernel
theorem d_Mo_isRow_11 : decode b_Mo_isRow 11 = .ok (.iload_n 1, 1) := by decide +kernel
theorem d_Mo_isRow_12 : decode b_Mo_isRow 12 = .ok (.aload_n 0, 1) := by decide +kernel
theorem d_Mo_isRow_13 : decode b_Mo_isRow 13 = .ok (.getfield 358, 3) := by decide +kernel
theorem d_Mo_isRow_16 : decode b_Mo_isRow 16 = .ok (.if_icmp .ge 7, 3) := by decide +kernel
theorem d_Mo_isRow_19 : decode b_Mo_isRow 19 = .ok (.iconst 1, 1) := by decide +kernel
theorem d_Mo_isRow_20 : decode b_Mo_isRow 20 = .ok (.goto 4, 3) := by decide +kernel
theorem d_Mo_isRow_23 : decode b_Mo_isRow 23 = .ok (.iconst 0, 1) := by decide +kernel
theorem d_Mo_isRow_24 : decode b_Mo_isRow 24 = .ok (.ireturn, 1) := by decide +kernel
theorem d_Mo_text_0 : decode b_Mo_text 0 = .ok (.aload_n 0, 1) := by decide +kernel
theorem d_Mo_text_1 : decode b_Mo_text 1 = .ok (.aload_n 0, 1) := by decide +kernel
theorem d_Mo_text_2 : decode b_Mo_text 2 = .ok (.iload_n 1, 1) := by decide +kernel
theorem d_Mo_text_3 : decode b_Mo_text 3 = .ok (.invokevirtual 371, 3) := by decide +kernel
theorem d_Mo_text_6 : decode b_Mo_text 6 = .ok (.ifCond .eq 7, 3) := by decide +kernel
theorem d_Mo_text_9 : decode b_Mo_text 9 = .ok (.iconst 0, 1) := by decide +kernel
theorem d_Mo_text_10 : decode b_Mo_text 10 = .ok (.goto 4, 3) := by decide +kernel
theorem d_Mo_text_13 : decode b_Mo_text 13 = .ok (.iconst 1, 1) := by decide +kernel
theorem d_Mo_text_14 : decode b_Mo_text 14 = .ok (.putfield 101, 3) := by decide +kernel
theorem d_Mo_text_17 : decode b_Mo_text 17 = .ok (.aload_n 0, 1) := by decide +kernel
theorem d_Mo_text_18 : decode b_Mo_text 18 = .ok (.getfield 101, 3) := by decide +kernel
theorem d_Mo_text_21 : decode b_Mo_text 21 = .ok (.ifCond .le 7, 3) := by decide +kernel
theorem d_Mo_text_24 : decode b_Mo_text 24 = .ok (.iconst 0, 1) := by decide +kernel
theorem d_Mo_text_25 : decode b_Mo_text 25 = .ok (.goto 54, 3) := by decide +kernel
theorem d_Mo_text_28 : decode b_Mo_text 28 = .ok (.iload_n 2, 1) := by decide +kernel
theorem d_Mo_text_29 : decode b_Mo_text 29 = .ok (.ifCond .lt 30, 3) := by decide +kernel
theorem d_Mo_text_32 : decode b_Mo_text 32 = .ok (.iload_n 2, 1) := by decide +kernel
theorem d_Mo_text_33 : decode b_Mo_text 33 = .ok (.aload_n 0, 1) := by decide +kernel
theorem d_Mo_text_34 : decode b_Mo_text 34 = .ok (.getfield 355, 3) := by decide +kernel
theorem d_Mo_text_37 : decode b_Mo_text 37 = .ok (.if_icmp .ge 22, 3) := by decide +kernel
theorem d_Mo_text_40 : decode b_Mo_text 40 = .ok (.iload_n 3, 1) := by decide +kernel
theorem d_Mo_text_41 : decode b_Mo_text 41 = .ok (.ifCond .lt 18, 3) := by decide +kernel
theorem d_Mo_text_44 : decode b_Mo_text 44 = .ok (.iload_n 3, 1) := by decide +kernel
theorem d_Mo_text_45 : decode b_Mo_text 45 = .ok (.aload_n 0, 1) := by decide +kernel
theorem d_Mo_text_46 : decode b_Mo_text 46 = .ok (.getfield 92, 3) := by decide +kernel
theorem d_Mo_text_49 : decode b_Mo_text 49 = .ok (.bipush 6, 2) := by decide +kernel
theorem d_Mo_text_51 : decode b_Mo_text 51 = .ok (.iload_n 1, 1) := by decide +kernel
theorem d_Mo_text_52 : decode b_Mo_text 52 = .ok (.imul, 1) := by decide +kernel
theorem d_Mo_text_53 : decode b_Mo_text 53 = .ok (.iload_n 2, 1) := by decide +kernel
theorem d_Mo_text_54 : decode b_Mo_text 54 = .ok (.iadd, 1) := by decide +kernel
theorem d_Mo_text_55 : decode b_Mo_text 55 = .ok (.iaload, 1) := by decide +kernel
theorem d_Mo_text_56 : decode b_Mo_text 56 = .ok (.if_icmp .lt 7, 3) := by decide +kernel
theorem d_Mo_text_59 : decode b_Mo_text 59 = .ok (.iconst (-1), 1) := by decide +kernel
theorem d_Mo_text_60 : decode b_Mo_text 60 = .ok (.goto 19, 3) := by decide +kernel
theorem d_Mo_text_63 : decode b_Mo_text 63 = .ok (.aload_n 0, 1) := by decide +kernel
theorem d_Mo_text_64 : decode b_Mo_text 64 = .ok (.getfield 89, 3) := by decide +kernel
theorem d_Mo_text_67 : decode b_Mo_text 67 = .ok (.bipush 6, 2) := by decide +kernel
theorem d_Mo_text_69 : decode b_Mo_text 69 = .ok (.iload_n 1, 1) := by decide +kernel
theorem d_Mo_text_70 : decode b_Mo_text 70 = .ok (.imul, 1) := by decide +kernel
theorem d_Mo_text_71 : decode b_Mo_text 71 = .ok (.iload_n 2, 1) := by decide +kernel
theorem d_Mo_text_72 : decode b_Mo_text 72 = .ok (.iadd, 1) := by decide +kernel
theorem d_Mo_text_73 : decode b_Mo_text 73 = .ok (.bipush 24, 2) := by decide +kernel
theorem d_Mo_text_75 : decode b_Mo_text 75 = .ok (.imul, 1) := by decide +kernel
theorem d_Mo_text_76 : decode b_Mo_text 76 = .ok (.iload_n 3, 1) := by decide +kernel
theorem d_Mo_text_77 : decode b_Mo_text 77 = .ok (.iadd, 1) := by decide +kernel
theorem d_Mo_text_78 : decode b_Mo_text 78 = .ok (.baload, 1) := by decide +kernel
theorem d_Mo_text_79 : decode b_Mo_text 79 = .ok (.ireturn, 1) := by decide +kernel
theorem d_Mo_isThere_0 : decode b_Mo_isThere 0 = .ok (.aload_n 0, 1) := by decide +kernel
theorem d_Mo_isThere_1 : decode b_Mo_isThere 1 = .ok (.aload_n 0, 1) := by decide +kernel
theorem d_Mo_isThere_2 : decode b_Mo_isThere 2 = .ok (.iload_n 1, 1) := by decide +kernel
theorem d_Mo_isThere_3 : decode b_Mo_isThere 3 = .ok (.invokevirtual 371, 3) := by decide +kernel
theorem d_Mo_isThere_6 : decode b_Mo_isThere 6 = .ok (.ifCond .eq 19, 3) := by decide +kernel
theorem d_Mo_isThere_9 : decode b_Mo_isThere 9 = .ok (.iload_n 2, 1) := by decide +kernel
theorem d_Mo_isThere_10 : decode b_Mo_isThere 10 = .ok (.ifCond .lt 15, 3) := by decide +kernel
theorem d_Mo_isThere_13 : decode b_Mo_isThere 13 = .ok (.iload_n 2, 1) := by decide +kernel
theorem d_Mo_isThere_14 : decode b_Mo_isThere 14 = .ok (.aload_n 0, 1) := by decide +kernel
theorem d_Mo_isThere_15 : decode b_Mo_isThere 15 = .ok (.getfield 361, 3) := by decide +kernel
theorem d_Mo_isThere_18 : decode b_Mo_isThere 18 = .ok (.if_icmp .ge 7, 3) := by decide +kernel
theorem d_Mo_isThere_21 : decode b_Mo_isThere 21 = .ok (.iconst 0, 1) := by decide +kernel
theorem d_Mo_isThere_22 : decode b_Mo_isThere 22 = .ok (.goto 4, 3) := by decide +kernel
theorem d_Mo_isThere_25 : decode b_Mo_isThere 25 = .ok (.iconst 1, 1) := by decide +kernel
theorem d_Mo_isThere_26 : decode b_Mo_isThere 26 = .ok (.putfield 101, 3) := by decide +kernel
theorem d_Mo_isThere_29 : decode b_Mo_isThere 29 = .ok (.aload_n 0, 1) := by decide +kernel
theorem d_Mo_isThere_30 : decode b_Mo_isThere 30 = .ok (.getfield 101, 3) := by decide +kernel
theorem d_Mo_isThere_33 : decode b_Mo_isThere 33 = .ok (.ifCond .ne 21, 3) := by decide +kernel
theorem d_Mo_isThere_36 : decode b_Mo_isThere 36 = .ok (.aload_n 0, 1) := by decide +kernel
theorem d_Mo_isThere_37 : decode b_Mo_isThere 37 = .ok (.getfield 98, 3) := by decide +kernel
theorem d_Mo_isThere_40 : decode b_Mo_isThere 40 = .ok (.bipush 64, 2) := by decide +kernel
theorem d_Mo_isThere_42 : decode b_Mo_isThere 42 = .ok (.iload_n 1, 1) := by decide +kernel
theorem d_Mo_isThere_43 : decode b_Mo_isThere 43 = .ok (.imul, 1) := by decide +kernel
theorem d_Mo_isThere_44 : decode b_Mo_isThere 44 = .ok (.iload_n 2, 1) := by decide +kernel
theorem d_Mo_isThere_45 : decode b_Mo_isThere 45 = .ok (.iadd, 1) := by decide +kernel
theorem d_Mo_isThere_46 : decode b_Mo_isThere 46 = .ok (.baload, 1) := by decide +kernel
theorem d_Mo_isThere_47 : decode b_Mo_isThere 47 = .ok (.ifCond .eq 7, 3) := by decide +kernel
theorem d_Mo_isThere_50 : decode b_Mo_isThere 50 = .ok (.iconst 1, 1) := by decide +kernel
theorem d_Mo_isThere_51 : decode b_Mo_isThere 51 = .ok (.goto 4, 3) := by decide +kernel
theorem d_Mo_isThere_54 : decode b_Mo_isThere 54 = .ok (.iconst 0, 1) := by decide +kernel
theorem d_Mo_isThere_55 : decode b_Mo_isThere 55 = .ok (.ireturn, 1) := by decide +kernel
theorem d_Mo_cell_0 : decode b_Mo_cell 0 = .ok (.aload_n 0, 1) := by decide +kernel
theorem d_Mo_cell_1 : decode b_Mo_cell 1 = .ok (.aload_n 0, 1) := by decide +kernel
theorem d_Mo_cell_2 : decode b_Mo_cell 2 = .ok (.iload_n 1, 1) := by decide +kernel
theorem d_Mo_cell_3 : decode b_Mo_cell 3 = .ok (.invokevirtual 371, 3) := by decide +kernel
theorem d_Mo_cell_6 : decode b_Mo_cell 6 = .ok (.ifCond .eq 19, 3) := by decide +kernel
theorem d_Mo_cell_9 : decode b_Mo_cell 9 = .ok (.iload_n 2, 1) := by decide +kernel
theorem d_Mo_cell_10 : decode b_Mo_cell 10 = .ok (.ifCond .lt 15, 3) := by decide +kernel
theorem d_Mo_cell_13 : decode b_Mo_cell 13 = .ok (.iload_n 2, 1) := by decide +kernel
theorem d_Mo_cell_14 : decode b_Mo_cell 14 = .ok (.aload_n 0, 1) := by decide +kernel
theorem d_Mo_cell_15 : decode b_Mo_cell 15 = .ok (.getfield 361, 3) := by decide +kernel
theorem d_Mo_cell_18 : decode b_Mo_cell 18 = .ok (.if_icmp .ge 7, 3) := by decide +kernel
theorem d_Mo_cell_21 : decode b_Mo_cell 21 = .ok (.iconst 0, 1) := by decide +kernel
theorem d_Mo_cell_22 : decode b_Mo_cell 22 = .ok (.goto 4, 3) := by decide +kernel
theorem d_Mo_cell_25 : decode b_Mo_cell 25 = .ok (.iconst 1, 1) := by decide +kernel
theorem d_Mo_cell_26 : decode b_Mo_cell 26 = .ok (.putfield 101, 3) := by decide +kernel
theorem d_Mo_cell_29 : decode b_Mo_cell 29 = .ok (.aload_n 0, 1) := by decide +kernel
theorem d_Mo_cell_30 : decode b_Mo_cell 30 = .ok (.getfield 101, 3) := by decide +kernel
theorem d_Mo_cell_33 : decode b_Mo_cell 33 = .ok (.ifCond .ne 31, 3) := by decide +kernel
theorem d_Mo_cell_36 : decode b_Mo_cell 36 = .ok (.aload_n 0, 1) := by decide +kernel
theorem d_Mo_cell_37 : decode b_Mo_cell 37 = .ok (.getfield 98, 3) := by decide +kernel
theorem d_Mo_cell_40 : decode b_Mo_cell 40 = .ok (.bipush 64, 2) := by decide +kernel
theorem d_Mo_cell_42 : decode b_Mo_cell 42 = .ok (.iload_n 1, 1) := by decide +kernel
theorem d_Mo_cell_43 : decode b_Mo_cell 43 = .ok (.imul, 1) := by decide +kernel
theorem d_Mo_cell_44 : decode b_Mo_cell 44 = .ok (.iload_n 2, 1) := by decide +kernel
theorem d_Mo_cell_45 : decode b_Mo_cell 45 = .ok (.iadd, 1) := by decide +kernel
theorem d_Mo_cell_46 : decode b_Mo_cell 46 = .ok (.baload, 1) := by decide +kernel
theorem d_Mo_cell_47 : decode b_Mo_cell 47 = .ok (.ifCond .eq 17, 3) := by decide +kernel
theorem d_Mo_cell_50 : decode b_Mo_cell 50 = .ok (.aload_n 0, 1) := by decide +kernel
theorem d_Mo_cell_51 : decode b_Mo_cell 51 = .ok (.getfield 95, 3) := by decide +kernel
theorem d_Mo_cell_54 : decode b_Mo_cell 54 = .ok (.bipush 64, 2) := by decide +kernel
theorem d_Mo_cell_56 : decode b_Mo_cell 56 = .ok (.iload_n 1, 1) := by decide +kernel
theorem d_Mo_cell_57 : decode b_Mo_cell 57 = .ok (.imul, 1) := by decide +kernel
theorem d_Mo_cell_58 : decode b_Mo_cell 58 = .ok (.iload_n 2, 1) := by decide +kernel
theorem d_Mo_cell_59 : decode b_Mo_cell 59 = .ok (.iadd, 1) := by decide +kernel
theorem d_Mo_cell_60 : decode b_Mo_cell 60 = .ok (.laload, 1) := by decide +kernel
theorem d_Mo_cell_61 : decode b_Mo_cell 61 = .ok (.goto 4, 3) := by decide +kernel
theorem d_Mo_cell_64 : decode b_Mo_cell 64 = .ok (.lconst 0, 1) := by decide +kernel
theorem d_Mo_cell_65 : decode b_Mo_cell 65 = .ok (.lreturn, 1) := by decide +kernel
