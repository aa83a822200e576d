theorem dX4_init_0 : decode cX4_init 0 = .ok (.aload_n 0, 1) := by decide +kernel
theorem dX4_init_1 : decode cX4_init 1 = .ok (.invokespecial 1, 3) := by decide +kernel
theorem dX4_init_4 : decode cX4_init 4 = .ok (.return_, 1) := by decide +kernel
theorem dX5_init_0 : decode cX5_init 0 = .ok (.aload_n 0, 1) := by decide +kernel
theorem dX5_init_1 : decode cX5_init 1 = .ok (.invokespecial 1, 3) := by decide +kernel
theorem dX5_init_4 : decode cX5_init 4 = .ok (.aload_n 0, 1) := by decide +kernel
theorem dX5_init_5 : decode cX5_init 5 = .ok (.iconst 1, 1) := by decide +kernel
theorem dX5_init_6 : decode cX5_init 6 = .ok (.putfield 7, 3) := by decide +kernel
theorem dX5_init_9 : decode cX5_init 9 = .ok (.return_, 1) := by decide +kernel
theorem dX5_up_0 : decode cX5_up 0 = .ok (.aload_n 0, 1) := by decide +kernel
theorem dX5_up_1 : decode cX5_up 1 = .ok (.getfield 13, 3) := by decide +kernel
theorem dX5_up_4 : decode cX5_up 4 = .ok (.ifnull 11, 3) := by decide +kernel
theorem dX5_up_7 : decode cX5_up 7 = .ok (.aload_n 0, 1) := by decide +kernel
theorem dX5_up_8 : decode cX5_up 8 = .ok (.getfield 13, 3) := by decide +kernel
theorem dX5_up_11 : decode cX5_up 11 = .ok (.aconst_null, 1) := by decide +kernel
theorem dX5_up_12 : decode cX5_up 12 = .ok (.putfield 17, 3) := by decide +kernel
theorem dX5_up_15 : decode cX5_up 15 = .ok (.aload_n 0, 1) := by decide +kernel
theorem dX5_up_16 : decode cX5_up 16 = .ok (.aconst_null, 1) := by decide +kernel
theorem dX5_up_17 : decode cX5_up 17 = .ok (.putfield 13, 3) := by decide +kernel
theorem dX5_up_20 : decode cX5_up 20 = .ok (.aload_n 0, 1) := by decide +kernel
theorem dX5_up_21 : decode cX5_up 21 = .ok (.iconst 0, 1) := by decide +kernel
theorem dX5_up_22 : decode cX5_up 22 = .ok (.putfield 23, 3) := by decide +kernel
theorem dX5_up_25 : decode cX5_up 25 = .ok (.return_, 1) := by decide +kernel
theorem dX5_gets_0 : decode cX5_gets 0 = .ok (.aload_n 0, 1) := by decide +kernel
theorem dX5_gets_1 : decode cX5_gets 1 = .ok (.aload_n 0, 1) := by decide +kernel
theorem dX5_gets_2 : decode cX5_gets 2 = .ok (.getfield 26, 3) := by decide +kernel
theorem dX5_gets_5 : decode cX5_gets 5 = .ok (.iload_n 1, 1) := by decide +kernel
theorem dX5_gets_6 : decode cX5_gets 6 = .ok (.iadd, 1) := by decide +kernel
theorem dX5_gets_7 : decode cX5_gets 7 = .ok (.bipush 99, 2) := by decide +kernel
theorem dX5_gets_9 : decode cX5_gets 9 = .ok (.if_icmp .le 8, 3) := by decide +kernel
theorem dX5_gets_12 : decode cX5_gets 12 = .ok (.bipush 99, 2) := by decide +kernel
theorem dX5_gets_14 : decode cX5_gets 14 = .ok (.goto 9, 3) := by decide +kernel
theorem dX5_gets_17 : decode cX5_gets 17 = .ok (.aload_n 0, 1) := by decide +kernel
theorem dX5_gets_18 : decode cX5_gets 18 = .ok (.getfield 26, 3) := by decide +kernel
theorem dX5_gets_21 : decode cX5_gets 21 = .ok (.iload_n 1, 1) := by decide +kernel
theorem dX5_gets_22 : decode cX5_gets 22 = .ok (.iadd, 1) := by decide +kernel
theorem dX5_gets_23 : decode cX5_gets 23 = .ok (.putfield 26, 3) := by decide +kernel
theorem dX5_gets_26 : decode cX5_gets 26 = .ok (.return_, 1) := by decide +kernel
theorem dX6_init_0 : decode cX6_init 0 = .ok (.aload_n 0, 1) := by decide +kernel
theorem dX6_init_1 : decode cX6_init 1 = .ok (.invokespecial 1, 3) := by decide +kernel
theorem dX6_init_4 : decode cX6_init 4 = .ok (.aload_n 0, 1) := by decide +kernel
theorem dX6_init_5 : decode cX6_init 5 = .ok (.iconst 5, 1) := by decide +kernel
theorem dX6_init_6 : decode cX6_init 6 = .ok (.putfield 7, 3) := by decide +kernel
theorem dX6_init_9 : decode cX6_init 9 = .ok (.aload_n 0, 1) := by decide +kernel
theorem dX6_init_10 : decode cX6_init 10 = .ok (.bipush 6, 2) := by decide +kernel
theorem dX6_init_12 : decode cX6_init 12 = .ok (.putfield 13, 3) := by decide +kernel
theorem dX6_init_15 : decode cX6_init 15 = .ok (.aload_n 0, 1) := by decide +kernel
theorem dX6_init_16 : decode cX6_init 16 = .ok (.iconst 0, 1) := by decide +kernel
theorem dX6_init_17 : decode cX6_init 17 = .ok (.anewarray 16, 3) := by decide +kernel
theorem dX6_init_20 : decode cX6_init 20 = .ok (.putfield 18, 3) := by decide +kernel
theorem dX6_init_23 : decode cX6_init 23 = .ok (.aload_n 0, 1) := by decide +kernel
theorem dX6_init_24 : decode cX6_init 24 = .ok (.iconst 0, 1) := by decide +kernel
theorem dX6_init_25 : decode cX6_init 25 = .ok (.anewarray 22, 3) := by decide +kernel
theorem dX6_init_28 : decode cX6_init 28 = .ok (.putfield 24, 3) := by decide +kernel
theorem dX6_init_31 : decode cX6_init 31 = .ok (.return_, 1) := by decide +kernel
theorem dX6_free_0 : decode cX6_free 0 = .ok (.aload_n 1, 1) := by decide +kernel
theorem dX6_free_1 : decode cX6_free 1 = .ok (.getfield 66, 3) := by decide +kernel
theorem dX6_free_4 : decode cX6_free 4 = .ok (.ifnull 18, 3) := by decide +kernel
theorem dX6_free_7 : decode cX6_free 7 = .ok (.aload_n 1, 1) := by decide +kernel
theorem dX6_free_8 : decode cX6_free 8 = .ok (.getfield 66, 3) := by decide +kernel
theorem dX6_free_11 : decode cX6_free 11 = .ok (.getfield 73, 3) := by decide +kernel
theorem dX6_free_14 : decode cX6_free 14 = .ok (.ifnonnull 8, 3) := by decide +kernel
theorem dX6_free_17 : decode cX6_free 17 = .ok (.aload_n 1, 1) := by decide +kernel
theorem dX6_free_18 : decode cX6_free 18 = .ok (.getfield 66, 3) := by decide +kernel
theorem dX6_free_21 : decode cX6_free 21 = .ok (.areturn, 1) := by decide +kernel
theorem dX6_free_22 : decode cX6_free 22 = .ok (.aconst_null, 1) := by decide +kernel
theorem dX6_free_23 : decode cX6_free 23 = .ok (.astore_n 2, 1) := by decide +kernel
theorem dX6_free_24 : decode cX6_free 24 = .ok (.aload_n 0, 1) := by decide +kernel
theorem dX6_free_25 : decode cX6_free 25 = .ok (.getfield 18, 3) := by decide +kernel
theorem dX6_free_28 : decode cX6_free 28 = .ok (.astore_n 3, 1) := by decide +kernel
theorem dX6_free_29 : decode cX6_free 29 = .ok (.aload_n 3, 1) := by decide +kernel
theorem dX6_free_30 : decode cX6_free 30 = .ok (.arraylength, 1) := by decide +kernel
theorem dX6_free_31 : decode cX6_free 31 = .ok (.istore 4, 2) := by decide +kernel
theorem dX6_free_33 : decode cX6_free 33 = .ok (.iconst 0, 1) := by decide +kernel
theorem dX6_free_34 : decode cX6_free 34 = .ok (.istore 5, 2) := by decide +kernel
theorem dX6_free_36 : decode cX6_free 36 = .ok (.iload 5, 2) := by decide +kernel
theorem dX6_free_38 : decode cX6_free 38 = .ok (.iload 4, 2) := by decide +kernel
theorem dX6_free_40 : decode cX6_free 40 = .ok (.if_icmp .ge 42, 3) := by decide +kernel
theorem dX6_free_43 : decode cX6_free 43 = .ok (.aload_n 3, 1) := by decide +kernel
theorem dX6_free_44 : decode cX6_free 44 = .ok (.iload 5, 2) := by decide +kernel
theorem dX6_free_46 : decode cX6_free 46 = .ok (.aaload, 1) := by decide +kernel
theorem dX6_free_47 : decode cX6_free 47 = .ok (.astore 6, 2) := by decide +kernel
theorem dX6_free_49 : decode cX6_free 49 = .ok (.aload 6, 2) := by decide +kernel
theorem dX6_free_51 : decode cX6_free 51 = .ok (.getfield 73, 3) := by decide +kernel
theorem dX6_free_54 : decode cX6_free 54 = .ok (.ifnonnull 22, 3) := by decide +kernel
theorem dX6_free_57 : decode cX6_free 57 = .ok (.aload_n 2, 1) := by decide +kernel
theorem dX6_free_58 : decode cX6_free 58 = .ok (.ifnull 15, 3) := by decide +kernel
theorem dX6_free_61 : decode cX6_free 61 = .ok (.aload 6, 2) := by decide +kernel
theorem dX6_free_63 : decode cX6_free 63 = .ok (.getfield 36, 3) := by decide +kernel
theorem dX6_free_66 : decode cX6_free 66 = .ok (.aload_n 2, 1) := by decide +kernel
theorem dX6_free_67 : decode cX6_free 67 = .ok (.getfield 36, 3) := by decide +kernel
theorem dX6_free_70 : decode cX6_free 70 = .ok (.if_icmp .ge 6, 3) := by decide +kernel
theorem dX6_free_73 : decode cX6_free 73 = .ok (.aload 6, 2) := by decide +kernel
theorem dX6_free_75 : decode cX6_free 75 = .ok (.astore_n 2, 1) := by decide +kernel
theorem dX6_free_76 : decode cX6_free 76 = .ok (.iinc 5 1, 3) := by decide +kernel
theorem dX6_free_79 : decode cX6_free 79 = .ok (.goto (-43), 3) := by decide +kernel
theorem dX6_free_82 : decode cX6_free 82 = .ok (.aload_n 2, 1) := by decide +kernel
theorem dX6_free_83 : decode cX6_free 83 = .ok (.areturn, 1) := by decide +kernel
theorem dX6_pass_0 : decode cX6_pass 0 = .ok (.aload_n 0, 1) := by decide +kernel
theorem dX6_pass_1 : decode cX6_pass 1 = .ok (.getfield 29, 3) := by decide +kernel
theorem dX6_pass_4 : decode cX6_pass 4 = .ok (.bipush 8, 2) := by decide +kernel
theorem dX6_pass_6 : decode cX6_pass 6 = .ok (.idiv, 1) := by decide +kernel
theorem dX6_pass_7 : decode cX6_pass 7 = .ok (.iconst 3, 1) := by decide +kernel
theorem dX6_pass_8 : decode cX6_pass 8 = .ok (.irem, 1) := by decide +kernel
theorem dX6_pass_9 : decode cX6_pass 9 = .ok (.istore_n 1, 1) := by decide +kernel
theorem dX6_pass_10 : decode cX6_pass 10 = .ok (.aload_n 0, 1) := by decide +kernel
theorem dX6_pass_11 : decode cX6_pass 11 = .ok (.getfield 29, 3) := by decide +kernel
theorem dX6_pass_14 : decode cX6_pass 14 = .ok (.bipush 8, 2) := by decide +kernel
theorem dX6_pass_16 : decode cX6_pass 16 = .ok (.irem, 1) := by decide +kernel
theorem dX6_pass_17 : decode cX6_pass 17 = .ok (.istore_n 2, 1) := by decide +kernel
theorem dX6_pass_18 : decode cX6_pass 18 = .ok (.aload_n 0, 1) := by decide +kernel
theorem dX6_pass_19 : decode cX6_pass 19 = .ok (.getfield 24, 3) := by decide +kernel
theorem dX6_pass_22 : decode cX6_pass 22 = .ok (.astore_n 3, 1) := by decide +kernel
theorem dX6_pass_23 : decode cX6_pass 23 = .ok (.aload_n 3, 1) := by decide +kernel
theorem dX6_pass_24 : decode cX6_pass 24 = .ok (.arraylength, 1) := by decide +kernel
theorem dX6_pass_25 : decode cX6_pass 25 = .ok (.istore 4, 2) := by decide +kernel
theorem dX6_pass_27 : decode cX6_pass 27 = .ok (.iconst 0, 1) := by decide +kernel
theorem dX6_pass_28 : decode cX6_pass 28 = .ok (.istore 5, 2) := by decide +kernel
theorem dX6_pass_30 : decode cX6_pass 30 = .ok (.iload 5, 2) := by decide +kernel
theorem dX6_pass_32 : decode cX6_pass 32 = .ok (.iload 4, 2) := by decide +kernel
theorem dX6_pass_34 : decode cX6_pass 34 = .ok (.if_icmp .ge 125, 3) := by decide +kernel
theorem dX6_pass_37 : decode cX6_pass 37 = .ok (.aload_n 3, 1) := by decide +kernel
theorem dX6_pass_38 : decode cX6_pass 38 = .ok (.iload 5, 2) := by decide +kernel
theorem dX6_pass_40 : decode cX6_pass 40 = .ok (.aaload, 1) := by decide +kernel
theorem dX6_pass_41 : decode cX6_pass 41 = .ok (.astore 6, 2) := by decide +kernel
theorem dX6_pass_43 : decode cX6_pass 43 = .ok (.aload 6, 2) := by decide +kernel
theorem dX6_pass_45 : decode cX6_pass 45 = .ok (.getfield 70, 3) := by decide +kernel
theorem dX6_pass_48 : decode cX6_pass 48 = .ok (.ifnonnull 11, 3) := by decide +kernel
theorem dX6_pass_51 : decode cX6_pass 51 = .ok (.aload 6, 2) := by decide +kernel
theorem dX6_pass_53 : decode cX6_pass 53 = .ok (.getfield 77, 3) := by decide +kernel
theorem dX6_pass_56 : decode cX6_pass 56 = .ok (.ifCond .eq 97, 3) := by decide +kernel
theorem dX6_pass_59 : decode cX6_pass 59 = .ok (.aload 6, 2) := by decide +kernel
theorem dX6_pass_61 : decode cX6_pass 61 = .ok (.getfield 50, 3) := by decide +kernel
theorem dX6_pass_64 : decode cX6_pass 64 = .ok (.iload_n 1, 1) := by decide +kernel
theorem dX6_pass_65 : decode cX6_pass 65 = .ok (.if_icmp .ne 6, 3) := by decide +kernel
theorem dX6_pass_68 : decode cX6_pass 68 = .ok (.goto 85, 3) := by decide +kernel
theorem dX6_pass_71 : decode cX6_pass 71 = .ok (.iload_n 2, 1) := by decide +kernel
theorem dX6_pass_72 : decode cX6_pass 72 = .ok (.istore 7, 2) := by decide +kernel
theorem dX6_pass_74 : decode cX6_pass 74 = .ok (.aload 6, 2) := by decide +kernel
theorem dX6_pass_76 : decode cX6_pass 76 = .ok (.getfield 50, 3) := by decide +kernel
theorem dX6_pass_79 : decode cX6_pass 79 = .ok (.iconst 1, 1) := by decide +kernel
theorem dX6_pass_80 : decode cX6_pass 80 = .ok (.iadd, 1) := by decide +kernel
theorem dX6_pass_81 : decode cX6_pass 81 = .ok (.iconst 3, 1) := by decide +kernel
theorem dX6_pass_82 : decode cX6_pass 82 = .ok (.irem, 1) := by decide +kernel
theorem dX6_pass_83 : decode cX6_pass 83 = .ok (.istore 8, 2) := by decide +kernel
theorem dX6_pass_85 : decode cX6_pass 85 = .ok (.iload 8, 2) := by decide +kernel
theorem dX6_pass_87 : decode cX6_pass 87 = .ok (.iload_n 1, 1) := by decide +kernel
theorem dX6_pass_88 : decode cX6_pass 88 = .ok (.if_icmp .eq 17, 3) := by decide +kernel
theorem dX6_pass_91 : decode cX6_pass 91 = .ok (.iinc 7 8, 3) := by decide +kernel
theorem dX6_pass_94 : decode cX6_pass 94 = .ok (.iload 8, 2) := by decide +kernel
theorem dX6_pass_96 : decode cX6_pass 96 = .ok (.iconst 1, 1) := by decide +kernel
theorem dX6_pass_97 : decode cX6_pass 97 = .ok (.iadd, 1) := by decide +kernel
theorem dX6_pass_98 : decode cX6_pass 98 = .ok (.iconst 3, 1) := by decide +kernel
theorem dX6_pass_99 : decode cX6_pass 99 = .ok (.irem, 1) := by decide +kernel
theorem dX6_pass_100 : decode cX6_pass 100 = .ok (.istore 8, 2) := by decide +kernel
theorem dX6_pass_102 : decode cX6_pass 102 = .ok (.goto (-17), 3) := by decide +kernel
theorem dX6_pass_105 : decode cX6_pass 105 = .ok (.aload_n 0, 1) := by decide +kernel
theorem dX6_pass_106 : decode cX6_pass 106 = .ok (.getfield 7, 3) := by decide +kernel
theorem dX6_pass_109 : decode cX6_pass 109 = .ok (.iload 7, 2) := by decide +kernel
theorem dX6_pass_111 : decode cX6_pass 111 = .ok (.iadd, 1) := by decide +kernel
theorem dX6_pass_112 : decode cX6_pass 112 = .ok (.iload 7, 2) := by decide +kernel
theorem dX6_pass_114 : decode cX6_pass 114 = .ok (.iadd, 1) := by decide +kernel
theorem dX6_pass_115 : decode cX6_pass 115 = .ok (.aload 6, 2) := by decide +kernel
theorem dX6_pass_117 : decode cX6_pass 117 = .ok (.getfield 53, 3) := by decide +kernel
theorem dX6_pass_120 : decode cX6_pass 120 = .ok (.if_icmp .lt 11, 3) := by decide +kernel
theorem dX6_pass_123 : decode cX6_pass 123 = .ok (.aload 6, 2) := by decide +kernel
theorem dX6_pass_125 : decode cX6_pass 125 = .ok (.invokevirtual 92, 3) := by decide +kernel
theorem dX6_pass_128 : decode cX6_pass 128 = .ok (.goto 25, 3) := by decide +kernel
theorem dX6_pass_131 : decode cX6_pass 131 = .ok (.aload 6, 2) := by decide +kernel
theorem dX6_pass_133 : decode cX6_pass 133 = .ok (.dup, 1) := by decide +kernel
theorem dX6_pass_134 : decode cX6_pass 134 = .ok (.getfield 83, 3) := by decide +kernel
theorem dX6_pass_137 : decode cX6_pass 137 = .ok (.iconst 1, 1) := by decide +kernel
theorem dX6_pass_138 : decode cX6_pass 138 = .ok (.iadd, 1) := by decide +kernel
theorem dX6_pass_139 : decode cX6_pass 139 = .ok (.putfield 83, 3) := by decide +kernel
theorem dX6_pass_142 : decode cX6_pass 142 = .ok (.aload 6, 2) := by decide +kernel
theorem dX6_pass_144 : decode cX6_pass 144 = .ok (.dup, 1) := by decide +kernel
theorem dX6_pass_145 : decode cX6_pass 145 = .ok (.getfield 86, 3) := by decide +kernel
theorem dX6_pass_148 : decode cX6_pass 148 = .ok (.iconst 1, 1) := by decide +kernel
theorem dX6_pass_149 : decode cX6_pass 149 = .ok (.iadd, 1) := by decide +kernel
theorem dX6_pass_150 : decode cX6_pass 150 = .ok (.putfield 86, 3) := by decide +kernel
theorem dX6_pass_153 : decode cX6_pass 153 = .ok (.iinc 5 1, 3) := by decide +kernel
theorem dX6_pass_156 : decode cX6_pass 156 = .ok (.goto (-126), 3) := by decide +kernel
theorem dX6_pass_159 : decode cX6_pass 159 = .ok (.aload_n 0, 1) := by decide +kernel
theorem dX6_pass_160 : decode cX6_pass 160 = .ok (.getfield 24, 3) := by decide +kernel
theorem dX6_pass_163 : decode cX6_pass 163 = .ok (.astore_n 3, 1) := by decide +kernel
theorem dX6_pass_164 : decode cX6_pass 164 = .ok (.aload_n 3, 1) := by decide +kernel
theorem dX6_pass_165 : decode cX6_pass 165 = .ok (.arraylength, 1) := by decide +kernel
theorem dX6_pass_166 : decode cX6_pass 166 = .ok (.istore 4, 2) := by decide +kernel
theorem dX6_pass_168 : decode cX6_pass 168 = .ok (.iconst 0, 1) := by decide +kernel
theorem dX6_pass_169 : decode cX6_pass 169 = .ok (.istore 5, 2) := by decide +kernel
theorem dX6_pass_171 : decode cX6_pass 171 = .ok (.iload 5, 2) := by decide +kernel
theorem dX6_pass_173 : decode cX6_pass 173 = .ok (.iload 4, 2) := by decide +kernel
theorem dX6_pass_175 : decode cX6_pass 175 = .ok (.if_icmp .ge 316, 3) := by decide +kernel
theorem dX6_pass_178 : decode cX6_pass 178 = .ok (.aload_n 3, 1) := by decide +kernel
theorem dX6_pass_179 : decode cX6_pass 179 = .ok (.iload 5, 2) := by decide +kernel
theorem dX6_pass_181 : decode cX6_pass 181 = .ok (.aaload, 1) := by decide +kernel
theorem dX6_pass_182 : decode cX6_pass 182 = .ok (.astore 6, 2) := by decide +kernel
theorem dX6_pass_184 : decode cX6_pass 184 = .ok (.aload 6, 2) := by decide +kernel
theorem dX6_pass_186 : decode cX6_pass 186 = .ok (.getfield 50, 3) := by decide +kernel
theorem dX6_pass_189 : decode cX6_pass 189 = .ok (.iload_n 1, 1) := by decide +kernel
theorem dX6_pass_190 : decode cX6_pass 190 = .ok (.if_icmp .eq 6, 3) := by decide +kernel
theorem dX6_pass_193 : decode cX6_pass 193 = .ok (.goto 292, 3) := by decide +kernel
theorem dX6_pass_196 : decode cX6_pass 196 = .ok (.iload_n 2, 1) := by decide +kernel
theorem dX6_pass_197 : decode cX6_pass 197 = .ok (.ifCond .ne 96, 3) := by decide +kernel
theorem dX6_pass_200 : decode cX6_pass 200 = .ok (.aload 6, 2) := by decide +kernel
theorem dX6_pass_202 : decode cX6_pass 202 = .ok (.getfield 62, 3) := by decide +kernel
theorem dX6_pass_205 : decode cX6_pass 205 = .ok (.ifCond .eq 11, 3) := by decide +kernel
theorem dX6_pass_208 : decode cX6_pass 208 = .ok (.aload 6, 2) := by decide +kernel
theorem dX6_pass_210 : decode cX6_pass 210 = .ok (.getfield 56, 3) := by decide +kernel
theorem dX6_pass_213 : decode cX6_pass 213 = .ok (.goto 10, 3) := by decide +kernel
theorem dX6_pass_216 : decode cX6_pass 216 = .ok (.aload 6, 2) := by decide +kernel
theorem dX6_pass_218 : decode cX6_pass 218 = .ok (.getfield 56, 3) := by decide +kernel
theorem dX6_pass_221 : decode cX6_pass 221 = .ok (.iconst 2, 1) := by decide +kernel
theorem dX6_pass_222 : decode cX6_pass 222 = .ok (.idiv, 1) := by decide +kernel
theorem dX6_pass_223 : decode cX6_pass 223 = .ok (.aload 6, 2) := by decide +kernel
theorem dX6_pass_225 : decode cX6_pass 225 = .ok (.getfield 86, 3) := by decide +kernel
theorem dX6_pass_228 : decode cX6_pass 228 = .ok (.isub, 1) := by decide +kernel
theorem dX6_pass_229 : decode cX6_pass 229 = .ok (.istore 7, 2) := by decide +kernel
theorem dX6_pass_231 : decode cX6_pass 231 = .ok (.iload 7, 2) := by decide +kernel
theorem dX6_pass_233 : decode cX6_pass 233 = .ok (.ifCond .le 10, 3) := by decide +kernel
theorem dX6_pass_236 : decode cX6_pass 236 = .ok (.aload 6, 2) := by decide +kernel
theorem dX6_pass_238 : decode cX6_pass 238 = .ok (.iload 7, 2) := by decide +kernel
theorem dX6_pass_240 : decode cX6_pass 240 = .ok (.invokevirtual 95, 3) := by decide +kernel
theorem dX6_pass_243 : decode cX6_pass 243 = .ok (.aload 6, 2) := by decide +kernel
theorem dX6_pass_245 : decode cX6_pass 245 = .ok (.iconst 0, 1) := by decide +kernel
theorem dX6_pass_246 : decode cX6_pass 246 = .ok (.putfield 86, 3) := by decide +kernel
theorem dX6_pass_249 : decode cX6_pass 249 = .ok (.aload 6, 2) := by decide +kernel
theorem dX6_pass_251 : decode cX6_pass 251 = .ok (.getfield 62, 3) := by decide +kernel
theorem dX6_pass_254 : decode cX6_pass 254 = .ok (.ifCond .ne 39, 3) := by decide +kernel
theorem dX6_pass_257 : decode cX6_pass 257 = .ok (.aload 6, 2) := by decide +kernel
theorem dX6_pass_259 : decode cX6_pass 259 = .ok (.getfield 59, 3) := by decide +kernel
theorem dX6_pass_262 : decode cX6_pass 262 = .ok (.aload_n 0, 1) := by decide +kernel
theorem dX6_pass_263 : decode cX6_pass 263 = .ok (.getfield 13, 3) := by decide +kernel
theorem dX6_pass_266 : decode cX6_pass 266 = .ok (.iconst 1, 1) := by decide +kernel
theorem dX6_pass_267 : decode cX6_pass 267 = .ok (.iadd, 1) := by decide +kernel
theorem dX6_pass_268 : decode cX6_pass 268 = .ok (.if_icmp .le 25, 3) := by decide +kernel
theorem dX6_pass_271 : decode cX6_pass 271 = .ok (.aload 6, 2) := by decide +kernel
theorem dX6_pass_273 : decode cX6_pass 273 = .ok (.dup, 1) := by decide +kernel
theorem dX6_pass_274 : decode cX6_pass 274 = .ok (.getfield 59, 3) := by decide +kernel
theorem dX6_pass_277 : decode cX6_pass 277 = .ok (.aload_n 0, 1) := by decide +kernel
theorem dX6_pass_278 : decode cX6_pass 278 = .ok (.getfield 13, 3) := by decide +kernel
theorem dX6_pass_281 : decode cX6_pass 281 = .ok (.iconst 2, 1) := by decide +kernel
theorem dX6_pass_282 : decode cX6_pass 282 = .ok (.iadd, 1) := by decide +kernel
theorem dX6_pass_283 : decode cX6_pass 283 = .ok (.isub, 1) := by decide +kernel
theorem dX6_pass_284 : decode cX6_pass 284 = .ok (.putfield 59, 3) := by decide +kernel
theorem dX6_pass_287 : decode cX6_pass 287 = .ok (.aload 6, 2) := by decide +kernel
theorem dX6_pass_289 : decode cX6_pass 289 = .ok (.iconst 1, 1) := by decide +kernel
theorem dX6_pass_290 : decode cX6_pass 290 = .ok (.putfield 62, 3) := by decide +kernel
theorem dX6_pass_293 : decode cX6_pass 293 = .ok (.aload 6, 2) := by decide +kernel
theorem dX6_pass_295 : decode cX6_pass 295 = .ok (.getfield 70, 3) := by decide +kernel
theorem dX6_pass_298 : decode cX6_pass 298 = .ok (.ifnonnull 187, 3) := by decide +kernel
theorem dX6_pass_301 : decode cX6_pass 301 = .ok (.aload 6, 2) := by decide +kernel
theorem dX6_pass_303 : decode cX6_pass 303 = .ok (.getfield 77, 3) := by decide +kernel
theorem dX6_pass_306 : decode cX6_pass 306 = .ok (.ifCond .eq 6, 3) := by decide +kernel
theorem dX6_pass_309 : decode cX6_pass 309 = .ok (.goto 176, 3) := by decide +kernel
theorem dX6_pass_312 : decode cX6_pass 312 = .ok (.aload_n 0, 1) := by decide +kernel
theorem dX6_pass_313 : decode cX6_pass 313 = .ok (.aload 6, 2) := by decide +kernel
theorem dX6_pass_315 : decode cX6_pass 315 = .ok (.invokevirtual 99, 3) := by decide +kernel
theorem dX6_pass_318 : decode cX6_pass 318 = .ok (.astore 7, 2) := by decide +kernel
theorem dX6_pass_320 : decode cX6_pass 320 = .ok (.aload 7, 2) := by decide +kernel
theorem dX6_pass_322 : decode cX6_pass 322 = .ok (.ifnonnull 11, 3) := by decide +kernel
theorem dX6_pass_325 : decode cX6_pass 325 = .ok (.iload_n 2, 1) := by decide +kernel
theorem dX6_pass_326 : decode cX6_pass 326 = .ok (.iconst 4, 1) := by decide +kernel
theorem dX6_pass_327 : decode cX6_pass 327 = .ok (.if_icmp .ge 6, 3) := by decide +kernel
theorem dX6_pass_330 : decode cX6_pass 330 = .ok (.goto 155, 3) := by decide +kernel
theorem dX6_pass_333 : decode cX6_pass 333 = .ok (.aload 7, 2) := by decide +kernel
theorem dX6_pass_335 : decode cX6_pass 335 = .ok (.ifnull 57, 3) := by decide +kernel
theorem dX6_pass_338 : decode cX6_pass 338 = .ok (.aload 6, 2) := by decide +kernel
theorem dX6_pass_340 : decode cX6_pass 340 = .ok (.getfield 59, 3) := by decide +kernel
theorem dX6_pass_343 : decode cX6_pass 343 = .ok (.aload 7, 2) := by decide +kernel
theorem dX6_pass_345 : decode cX6_pass 345 = .ok (.getfield 36, 3) := by decide +kernel
theorem dX6_pass_348 : decode cX6_pass 348 = .ok (.if_icmp .ge 44, 3) := by decide +kernel
theorem dX6_pass_351 : decode cX6_pass 351 = .ok (.aload 6, 2) := by decide +kernel
theorem dX6_pass_353 : decode cX6_pass 353 = .ok (.getfield 62, 3) := by decide +kernel
theorem dX6_pass_356 : decode cX6_pass 356 = .ok (.ifCond .eq 36, 3) := by decide +kernel
theorem dX6_pass_359 : decode cX6_pass 359 = .ok (.aload 6, 2) := by decide +kernel
theorem dX6_pass_361 : decode cX6_pass 361 = .ok (.getfield 59, 3) := by decide +kernel
theorem dX6_pass_364 : decode cX6_pass 364 = .ok (.aload_n 0, 1) := by decide +kernel
theorem dX6_pass_365 : decode cX6_pass 365 = .ok (.getfield 13, 3) := by decide +kernel
theorem dX6_pass_368 : decode cX6_pass 368 = .ok (.iadd, 1) := by decide +kernel
theorem dX6_pass_369 : decode cX6_pass 369 = .ok (.aload 7, 2) := by decide +kernel
theorem dX6_pass_371 : decode cX6_pass 371 = .ok (.getfield 36, 3) := by decide +kernel
theorem dX6_pass_374 : decode cX6_pass 374 = .ok (.if_icmp .lt 18, 3) := by decide +kernel
theorem dX6_pass_377 : decode cX6_pass 377 = .ok (.aload 6, 2) := by decide +kernel
theorem dX6_pass_379 : decode cX6_pass 379 = .ok (.iconst 0, 1) := by decide +kernel
theorem dX6_pass_380 : decode cX6_pass 380 = .ok (.putfield 62, 3) := by decide +kernel
theorem dX6_pass_383 : decode cX6_pass 383 = .ok (.aload 6, 2) := by decide +kernel
theorem dX6_pass_385 : decode cX6_pass 385 = .ok (.aload_n 0, 1) := by decide +kernel
theorem dX6_pass_386 : decode cX6_pass 386 = .ok (.getfield 13, 3) := by decide +kernel
theorem dX6_pass_389 : decode cX6_pass 389 = .ok (.invokevirtual 95, 3) := by decide +kernel
theorem dX6_pass_392 : decode cX6_pass 392 = .ok (.aload 7, 2) := by decide +kernel
theorem dX6_pass_394 : decode cX6_pass 394 = .ok (.ifnull 16, 3) := by decide +kernel
theorem dX6_pass_397 : decode cX6_pass 397 = .ok (.aload 6, 2) := by decide +kernel
theorem dX6_pass_399 : decode cX6_pass 399 = .ok (.getfield 59, 3) := by decide +kernel
theorem dX6_pass_402 : decode cX6_pass 402 = .ok (.aload 7, 2) := by decide +kernel
theorem dX6_pass_404 : decode cX6_pass 404 = .ok (.getfield 36, 3) := by decide +kernel
theorem dX6_pass_407 : decode cX6_pass 407 = .ok (.if_icmp .ge 23, 3) := by decide +kernel
theorem dX6_pass_410 : decode cX6_pass 410 = .ok (.aload 6, 2) := by decide +kernel
theorem dX6_pass_412 : decode cX6_pass 412 = .ok (.iconst 1, 1) := by decide +kernel
theorem dX6_pass_413 : decode cX6_pass 413 = .ok (.putfield 77, 3) := by decide +kernel
