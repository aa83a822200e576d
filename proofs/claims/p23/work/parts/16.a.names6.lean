theorem dX4_init_0 : decode cX4_init 0 = .ok (.aload_n 0, 1) := by decide +kernel
theorem dX4_init_1 : decode cX4_init 1 = .ok (.invokespecial 1, 3) := by decide +kernel
theorem dX4_init_4 : decode cX4_init 4 = .ok (.return_, 1) := by decide +kernel
theorem dX5_init_0 : decode cX5_init 0 = .ok (.aload_n 0, 1) := by decide +kernel
theorem dX5_init_1 : decode cX5_init 1 = .ok (.invokespecial 1, 3) := by decide +kernel
theorem dX5_init_4 : decode cX5_init 4 = .ok (.aload_n 0, 1) := by decide +kernel
theorem dX5_init_5 : decode cX5_init 5 = .ok (.iconst 1, 1) := by decide +kernel
theorem dX5_init_6 : decode cX5_init 6 = .ok (.putfield 7, 3) := by decide +kernel
theorem dX5_init_9 : decode cX5_init 9 = .ok (.return_, 1) := by decide +kernel
theorem dX5_up_0 : decode cX5_up 0 = .ok (.aload_n 0, 1) := by decide +kernel
theorem dX5_up_1 : decode cX5_up 1 = .ok (.getfield 13, 3) := by decide +kernel
theorem dX5_up_4 : decode cX5_up 4 = .ok (.ifnull 11, 3) := by decide +kernel
theorem dX5_up_7 : decode cX5_up 7 = .ok (.aload_n 0, 1) := by decide +kernel
theorem dX5_up_8 : decode cX5_up 8 = .ok (.getfield 13, 3) := by decide +kernel
theorem dX5_up_11 : decode cX5_up 11 = .ok (.aconst_null, 1) := by decide +kernel
theorem dX5_up_12 : decode cX5_up 12 = .ok (.putfield 17, 3) := by decide +kernel
theorem dX5_up_15 : decode cX5_up 15 = .ok (.aload_n 0, 1) := by decide +kernel
theorem dX5_up_16 : decode cX5_up 16 = .ok (.aconst_null, 1) := by decide +kernel
theorem dX5_up_17 : decode cX5_up 17 = .ok (.putfield 13, 3) := by decide +kernel
theorem dX5_up_20 : decode cX5_up 20 = .ok (.aload_n 0, 1) := by decide +kernel
theorem dX5_up_21 : decode cX5_up 21 = .ok (.iconst 0, 1) := by decide +kernel
theorem dX5_up_22 : decode cX5_up 22 = .ok (.putfield 23, 3) := by decide +kernel
theorem dX5_up_25 : decode cX5_up 25 = .ok (.return_, 1) := by decide +kernel
theorem dX5_gets_0 : decode cX5_gets 0 = .ok (.aload_n 0, 1) := by decide +kernel
theorem dX5_gets_1 : decode cX5_gets 1 = .ok (.aload_n 0, 1) := by decide +kernel
theorem dX5_gets_2 : decode cX5_gets 2 = .ok (.getfield 26, 3) := by decide +kernel
theorem dX5_gets_5 : decode cX5_gets 5 = .ok (.iload_n 1, 1) := by decide +kernel
theorem dX5_gets_6 : decode cX5_gets 6 = .ok (.iadd, 1) := by decide +kernel
theorem dX5_gets_7 : decode cX5_gets 7 = .ok (.bipush 99, 2) := by decide +kernel
theorem dX5_gets_9 : decode cX5_gets 9 = .ok (.if_icmp .le 8, 3) := by decide +kernel
theorem dX5_gets_12 : decode cX5_gets 12 = .ok (.bipush 99, 2) := by decide +kernel
theorem dX5_gets_14 : decode cX5_gets 14 = .ok (.goto 9, 3) := by decide +kernel
theorem dX5_gets_17 : decode cX5_gets 17 = .ok (.aload_n 0, 1) := by decide +kernel
theorem dX5_gets_18 : decode cX5_gets 18 = .ok (.getfield 26, 3) := by decide +kernel
theorem dX5_gets_21 : decode cX5_gets 21 = .ok (.iload_n 1, 1) := by decide +kernel
theorem dX5_gets_22 : decode cX5_gets 22 = .ok (.iadd, 1) := by decide +kernel
theorem dX5_gets_23 : decode cX5_gets 23 = .ok (.putfield 26, 3) := by decide +kernel
theorem dX5_gets_26 : decode cX5_gets 26 = .ok (.return_, 1) := by decide +kernel
theorem dX6_init_0 : decode cX6_init 0 = .ok (.aload_n 0, 1) := by decide +kernel
theorem dX6_init_1 : decode cX6_init 1 = .ok (.invokespecial 1, 3) := by decide +kernel
theorem dX6_init_4 : decode cX6_init 4 = .ok (.aload_n 0, 1) := by decide +kernel
theorem dX6_init_5 : decode cX6_init 5 = .ok (.iconst 5, 1) := by decide +kernel
theorem dX6_init_6 : decode cX6_init 6 = .ok (.putfield 7, 3) := by decide +kernel
theorem dX6_init_9 : decode cX6_init 9 = .ok (.aload_n 0, 1) := by decide +kernel
theorem dX6_init_10 : decode cX6_init 10 = .ok (.bipush 6, 2) := by decide +kernel
theorem dX6_init_12 : decode cX6_init 12 = .ok (.putfield 13, 3) := by decide +kernel
theorem dX6_init_15 : decode cX6_init 15 = .ok (.aload_n 0, 1) := by decide +kernel
theorem dX6_init_16 : decode cX6_init 16 = .ok (.iconst 0, 1) := by decide +kernel
theorem dX6_init_17 : decode cX6_init 17 = .ok (.anewarray 16, 3) := by decide +kernel
theorem dX6_init_20 : decode cX6_init 20 = .ok (.putfield 18, 3) := by decide +kernel
theorem dX6_init_23 : decode cX6_init 23 = .ok (.aload_n 0, 1) := by decide +kernel
theorem dX6_init_24 : decode cX6_init 24 = .ok (.iconst 0, 1) := by decide +kernel
theorem dX6_init_25 : decode cX6_init 25 = .ok (.anewarray 22, 3) := by decide +kernel
theorem dX6_init_28 : decode cX6_init 28 = .ok (.putfield 24, 3) := by decide +kernel
theorem dX6_init_31 : decode cX6_init 31 = .ok (.return_, 1) := by decide +kernel
theorem dX6_free_0 : decode cX6_free 0 = .ok (.aload_n 1, 1) := by decide +kernel
theorem dX6_free_1 : decode cX6_free 1 = .ok (.getfield 66, 3) := by decide +kernel
theorem dX6_free_4 : decode cX6_free 4 = .ok (.ifnull 18, 3) := by decide +kernel
theorem dX6_free_7 : decode cX6_free 7 = .ok (.aload_n 1, 1) := by decide +kernel
theorem dX6_free_8 : decode cX6_free 8 = .ok (.getfield 66, 3) := by decide +kernel
theorem dX6_free_11 : decode cX6_free 11 = .ok (.getfield 73, 3) := by decide +kernel
theorem dX6_free_14 : decode cX6_free 14 = .ok (.ifnonnull 8, 3) := by decide +kernel
theorem dX6_free_17 : decode cX6_free 17 = .ok (.aload_n 1, 1) := by decide +kernel
theorem dX6_free_18 : decode cX6_free 18 = .ok (.getfield 66, 3) := by decide +kernel
theorem dX6_free_21 : decode cX6_free 21 = .ok (.areturn, 1) := by decide +kernel
theorem dX6_free_22 : decode cX6_free 22 = .ok (.aconst_null, 1) := by decide +kernel
theorem dX6_free_23 : decode cX6_free 23 = .ok (.astore_n 2, 1) := by decide +kernel
theorem dX6_free_24 : decode cX6_free 24 = .ok (.aload_n 0, 1) := by decide +kernel
theorem dX6_free_25 : decode cX6_free 25 = .ok (.getfield 18, 3) := by decide +kernel
theorem dX6_free_28 : decode cX6_free 28 = .ok (.astore_n 3, 1) := by decide +kernel
theorem dX6_free_29 : decode cX6_free 29 = .ok (.aload_n 3, 1) := by decide +kernel
theorem dX6_free_30 : decode cX6_free 30 = .ok (.arraylength, 1) := by decide +kernel
theorem dX6_free_31 : decode cX6_free 31 = .ok (.istore 4, 2) := by decide +kernel
theorem dX6_free_33 : decode cX6_free 33 = .ok (.iconst 0, 1) := by decide +kernel
theorem dX6_free_34 : decode cX6_free 34 = .ok (.istore 5, 2) := by decide +kernel
theorem dX6_free_36 : decode cX6_free 36 = .ok (.iload 5, 2) := by decide +kernel
theorem dX6_free_38 : decode cX6_free 38 = .ok (.iload 4, 2) := by decide +kernel
theorem dX6_free_40 : decode cX6_free 40 = .ok (.if_icmp .ge 42, 3) := by decide +kernel
theorem dX6_free_43 : decode cX6_free 43 = .ok (.aload_n 3, 1) := by decide +kernel
theorem dX6_free_44 : decode cX6_free 44 = .ok (.iload 5, 2) := by decide +kernel
theorem dX6_free_46 : decode cX6_free 46 = .ok (.aaload, 1) := by decide +kernel
theorem dX6_free_47 : decode cX6_free 47 = .ok (.astore 6, 2) := by decide +kernel
theorem dX6_free_49 : decode cX6_free 49 = .ok (.aload 6, 2) := by decide +kernel
theorem dX6_free_51 : decode cX6_free 51 = .ok (.getfield 73, 3) := by decide +kernel
theorem dX6_free_54 : decode cX6_free 54 = .ok (.ifnonnull 22, 3) := by decide +kernel
theorem dX6_free_57 : decode cX6_free 57 = .ok (.aload_n 2, 1) := by decide +kernel
theorem dX6_free_58 : decode cX6_free 58 = .ok (.ifnull 15, 3) := by decide +kernel
theorem dX6_free_61 : decode cX6_free 61 = .ok (.aload 6, 2) := by decide +kernel
theorem dX6_free_63 : decode cX6_free 63 = .ok (.getfield 36, 3) := by decide +kernel
theorem dX6_free_66 : decode cX6_free 66 = .ok (.aload_n 2, 1) := by decide +kernel
theorem dX6_free_67 : decode cX6_free 67 = .ok (.getfield 36, 3) := by decide +kernel
theorem dX6_free_70 : decode cX6_free 70 = .ok (.if_icmp .ge 6, 3) := by decide +kernel
theorem dX6_free_73 : decode cX6_free 73 = .ok (.aload 6, 2) := by decide +kernel
theorem dX6_free_75 : decode cX6_free 75 = .ok (.astore_n 2, 1) := by decide +kernel
theorem dX6_free_76 : decode cX6_free 76 = .ok (.iinc 5 1, 3) := by decide +kernel
theorem dX6_free_79 : decode cX6_free 79 = .ok (.goto (-43), 3) := by decide +kernel
theorem dX6_free_82 : decode cX6_free 82 = .ok (.aload_n 2, 1) := by decide +kernel
theorem dX6_free_83 : decode cX6_free 83 = .ok (.areturn, 1) := by decide +kernel
set_option maxRecDepth 20000 in
theorem ggX6_pass_X5_up : GoodIn wsX6_pass wsX5_up := goodIn_r _ [26, 27, 28, 29, 46, 47, 48, 49, 50, 51, 52, 53, 54, 55, 56, 57, 58, 59, 60, 61, 62, 63, 64] (by decide +kernel) (by decide +kernel)
set_option maxRecDepth 20000 in
theorem gX6_pass_X5_up : GoodIn wsX6_pass (wsV RX6 92 RX5 yX5_up wsX5_up) := goodIn_app (goodIn_of _ (by decide +kernel)) ggX6_pass_X5_up
set_option maxRecDepth 20000 in
theorem ggX6_pass_X5_gets : GoodIn wsX6_pass wsX5_gets := goodIn_r _ [33, 34, 46, 47, 48, 49, 50, 51, 52, 53, 54, 55, 56, 57, 58] (by decide +kernel) (by decide +kernel)
set_option maxRecDepth 20000 in
theorem gX6_pass_X5_gets : GoodIn wsX6_pass (wsV RX6 95 RX5 yX5_gets wsX5_gets) := goodIn_app (goodIn_of _ (by decide +kernel)) ggX6_pass_X5_gets
set_option maxRecDepth 20000 in
theorem ggX6_pass_X6_free : GoodIn wsX6_pass wsX6_free := goodIn_r _ [39, 40, 18, 21, 14, 46, 47, 48, 49, 50, 51, 52, 53, 54, 55, 56, 57, 58, 59, 60, 61, 62, 63, 64, 41, 42, 43, 44, 45] (by decide +kernel) (by decide +kernel)
set_option maxRecDepth 20000 in
theorem gX6_pass_X6_free : GoodIn wsX6_pass (wsV RX6 99 RX6 yX6_free wsX6_free) := goodIn_app (goodIn_of _ (by decide +kernel)) ggX6_pass_X6_free
theorem dX6_pass_0 : decode cX6_pass 0 = .ok (.aload_n 0, 1) := by decide +kernel
theorem dX6_pass_1 : decode cX6_pass 1 = .ok (.getfield 29, 3) := by decide +kernel
theorem dX6_pass_4 : decode cX6_pass 4 = .ok (.bipush 8, 2) := by decide +kernel
theorem dX6_pass_6 : decode cX6_pass 6 = .ok (.idiv, 1) := by decide +kernel
theorem dX6_pass_7 : decode cX6_pass 7 = .ok (.iconst 3, 1) := by decide +kernel
theorem dX6_pass_8 : decode cX6_pass 8 = .ok (.irem, 1) := by decide +kernel
theorem dX6_pass_9 : decode cX6_pass 9 = .ok (.istore_n 1, 1) := by decide +kernel
theorem dX6_pass_10 : decode cX6_pass 10 = .ok (.aload_n 0, 1) := by decide +kernel
theorem dX6_pass_11 : decode cX6_pass 11 = .ok (.getfield 29, 3) := by decide +kernel
theorem dX6_pass_14 : decode cX6_pass 14 = .ok (.bipush 8, 2) := by decide +kernel
theorem dX6_pass_16 : decode cX6_pass 16 = .ok (.irem, 1) := by decide +kernel
theorem dX6_pass_17 : decode cX6_pass 17 = .ok (.istore_n 2, 1) := by decide +kernel
theorem dX6_pass_18 : decode cX6_pass 18 = .ok (.aload_n 0, 1) := by decide +kernel
theorem dX6_pass_19 : decode cX6_pass 19 = .ok (.getfield 24, 3) := by decide +kernel
theorem dX6_pass_22 : decode cX6_pass 22 = .ok (.astore_n 3, 1) := by decide +kernel
theorem dX6_pass_23 : decode cX6_pass 23 = .ok (.aload_n 3, 1) := by decide +kernel
theorem dX6_pass_24 : decode cX6_pass 24 = .ok (.arraylength, 1) := by decide +kernel
theorem dX6_pass_25 : decode cX6_pass 25 = .ok (.istore 4, 2) := by decide +kernel
theorem dX6_pass_27 : decode cX6_pass 27 = .ok (.iconst 0, 1) := by decide +kernel
theorem dX6_pass_28 : decode cX6_pass 28 = .ok (.istore 5, 2) := by decide +kernel
theorem dX6_pass_30 : decode cX6_pass 30 = .ok (.iload 5, 2) := by decide +kernel
theorem dX6_pass_32 : decode cX6_pass 32 = .ok (.iload 4, 2) := by decide +kernel
theorem dX6_pass_34 : decode cX6_pass 34 = .ok (.if_icmp .ge 125, 3) := by decide +kernel
theorem dX6_pass_37 : decode cX6_pass 37 = .ok (.aload_n 3, 1) := by decide +kernel
theorem dX6_pass_38 : decode cX6_pass 38 = .ok (.iload 5, 2) := by decide +kernel
theorem dX6_pass_40 : decode cX6_pass 40 = .ok (.aaload, 1) := by decide +kernel
theorem dX6_pass_41 : decode cX6_pass 41 = .ok (.astore 6, 2) := by decide +kernel
theorem dX6_pass_43 : decode cX6_pass 43 = .ok (.aload 6, 2) := by decide +kernel
theorem dX6_pass_45 : decode cX6_pass 45 = .ok (.getfield 70, 3) := by decide +kernel
theorem dX6_pass_48 : decode cX6_pass 48 = .ok (.ifnonnull 11, 3) := by decide +kernel
theorem dX6_pass_51 : decode cX6_pass 51 = .ok (.aload 6, 2) := by decide +kernel
theorem dX6_pass_53 : decode cX6_pass 53 = .ok (.getfield 77, 3) := by decide +kernel
theorem dX6_pass_56 : decode cX6_pass 56 = .ok (.ifCond .eq 97, 3) := by decide +kernel
theorem dX6_pass_59 : decode cX6_pass 59 = .ok (.aload 6, 2) := by decide +kernel
theorem dX6_pass_61 : decode cX6_pass 61 = .ok (.getfield 50, 3) := by decide +kernel
theorem dX6_pass_64 : decode cX6_pass 64 = .ok (.iload_n 1, 1) := by decide +kernel
theorem dX6_pass_65 : decode cX6_pass 65 = .ok (.if_icmp .ne 6, 3) := by decide +kernel
theorem dX6_pass_68 : decode cX6_pass 68 = .ok (.goto 85, 3) := by decide +kernel
theorem dX6_pass_71 : decode cX6_pass 71 = .ok (.iload_n 2, 1) := by decide +kernel
theorem dX6_pass_72 : decode cX6_pass 72 = .ok (.istore 7, 2) := by decide +kernel
theorem dX6_pass_74 : decode cX6_pass 74 = .ok (.aload 6, 2) := by decide +kernel
theorem dX6_pass_76 : decode cX6_pass 76 = .ok (.getfield 50, 3) := by decide +kernel
theorem dX6_pass_79 : decode cX6_pass 79 = .ok (.iconst 1, 1) := by decide +kernel
theorem dX6_pass_80 : decode cX6_pass 80 = .ok (.iadd, 1) := by decide +kernel
theorem dX6_pass_81 : decode cX6_pass 81 = .ok (.iconst 3, 1) := by decide +kernel
theorem dX6_pass_82 : decode cX6_pass 82 = .ok (.irem, 1) := by decide +kernel
theorem dX6_pass_83 : decode cX6_pass 83 = .ok (.istore 8, 2) := by decide +kernel
theorem dX6_pass_85 : decode cX6_pass 85 = .ok (.iload 8, 2) := by decide +kernel
theorem dX6_pass_87 : decode cX6_pass 87 = .ok (.iload_n 1, 1) := by decide +kernel
theorem dX6_pass_88 : decode cX6_pass 88 = .ok (.if_icmp .eq 17, 3) := by decide +kernel
theorem dX6_pass_91 : decode cX6_pass 91 = .ok (.iinc 7 8, 3) := by decide +kernel
theorem dX6_pass_94 : decode cX6_pass 94 = .ok (.iload 8, 2) := by decide +kernel
theorem dX6_pass_96 : decode cX6_pass 96 = .ok (.iconst 1, 1) := by decide +kernel
theorem dX6_pass_97 : decode cX6_pass 97 = .ok (.iadd, 1) := by decide +kernel
theorem dX6_pass_98 : decode cX6_pass 98 = .ok (.iconst 3, 1) := by decide +kernel
theorem dX6_pass_99 : decode cX6_pass 99 = .ok (.irem, 1) := by decide +kernel
theorem dX6_pass_100 : decode cX6_pass 100 = .ok (.istore 8, 2) := by decide +kernel
theorem dX6_pass_102 : decode cX6_pass 102 = .ok (.goto (-17), 3) := by decide +kernel
theorem dX6_pass_105 : decode cX6_pass 105 = .ok (.aload_n 0, 1) := by decide +kernel
theorem dX6_pass_106 : decode cX6_pass 106 = .ok (.getfield 7, 3) := by decide +kernel
theorem dX6_pass_109 : decode cX6_pass 109 = .ok (.iload 7, 2) := by decide +kernel
theorem dX6_pass_111 : decode cX6_pass 111 = .ok (.iadd, 1) := by decide +kernel
theorem dX6_pass_112 : decode cX6_pass 112 = .ok (.iload 7, 2) := by decide +kernel
theorem dX6_pass_114 : decode cX6_pass 114 = .ok (.iadd, 1) := by decide +kernel
theorem dX6_pass_115 : decode cX6_pass 115 = .ok (.aload 6, 2) := by decide +kernel
theorem dX6_pass_117 : decode cX6_pass 117 = .ok (.getfield 53, 3) := by decide +kernel
theorem dX6_pass_120 : decode cX6_pass 120 = .ok (.if_icmp .lt 11, 3) := by decide +kernel
theorem dX6_pass_123 : decode cX6_pass 123 = .ok (.aload 6, 2) := by decide +kernel
theorem dX6_pass_125 : decode cX6_pass 125 = .ok (.invokevirtual 92, 3) := by decide +kernel
theorem dX6_pass_128 : decode cX6_pass 128 = .ok (.goto 25, 3) := by decide +kernel
theorem dX6_pass_131 : decode cX6_pass 131 = .ok (.aload 6, 2) := by decide +kernel
theorem dX6_pass_133 : decode cX6_pass 133 = .ok (.dup, 1) := by decide +kernel
theorem dX6_pass_134 : decode cX6_pass 134 = .ok (.getfield 83, 3) := by decide +kernel
theorem dX6_pass_137 : decode cX6_pass 137 = .ok (.iconst 1, 1) := by decide +kernel
theorem dX6_pass_138 : decode cX6_pass 138 = .ok (.iadd, 1) := by decide +kernel
theorem dX6_pass_139 : decode cX6_pass 139 = .ok (.putfield 83, 3) := by decide +kernel
theorem dX6_pass_142 : decode cX6_pass 142 = .ok (.aload 6, 2) := by decide +kernel
theorem dX6_pass_144 : decode cX6_pass 144 = .ok (.dup, 1) := by decide +kernel
theorem dX6_pass_145 : decode cX6_pass 145 = .ok (.getfield 86, 3) := by decide +kernel
theorem dX6_pass_148 : decode cX6_pass 148 = .ok (.iconst 1, 1) := by decide +kernel
theorem dX6_pass_149 : decode cX6_pass 149 = .ok (.iadd, 1) := by decide +kernel
theorem dX6_pass_150 : decode cX6_pass 150 = .ok (.putfield 86, 3) := by decide +kernel
theorem dX6_pass_153 : decode cX6_pass 153 = .ok (.iinc 5 1, 3) := by decide +kernel
theorem dX6_pass_156 : decode cX6_pass 156 = .ok (.goto (-126), 3) := by decide +kernel
theorem dX6_pass_159 : decode cX6_pass 159 = .ok (.aload_n 0, 1) := by decide +kernel
theorem dX6_pass_160 : decode cX6_pass 160 = .ok (.getfield 24, 3) := by decide +kernel
theorem dX6_pass_163 : decode cX6_pass 163 = .ok (.astore_n 3, 1) := by decide +kernel
theorem dX6_pass_164 : decode cX6_pass 164 = .ok (.aload_n 3, 1) := by decide +kernel
theorem dX6_pass_165 : decode cX6_pass 165 = .ok (.arraylength, 1) := by decide +kernel
theorem dX6_pass_166 : decode cX6_pass 166 = .ok (.istore 4, 2) := by decide +kernel
theorem dX6_pass_168 : decode cX6_pass 168 = .ok (.iconst 0, 1) := by decide +kernel
theorem dX6_pass_169 : decode cX6_pass 169 = .ok (.istore 5, 2) := by decide +kernel
theorem dX6_pass_171 : decode cX6_pass 171 = .ok (.iload 5, 2) := by decide +kernel
theorem dX6_pass_173 : decode cX6_pass 173 = .ok (.iload 4, 2) := by decide +kernel
theorem dX6_pass_175 : decode cX6_pass 175 = .ok (.if_icmp .ge 316, 3) := by decide +kernel
theorem dX6_pass_178 : decode cX6_pass 178 = .ok (.aload_n 3, 1) := by decide +kernel
theorem dX6_pass_179 : decode cX6_pass 179 = .ok (.iload 5, 2) := by decide +kernel
theorem dX6_pass_181 : decode cX6_pass 181 = .ok (.aaload, 1) := by decide +kernel
theorem dX6_pass_182 : decode cX6_pass 182 = .ok (.astore 6, 2) := by decide +kernel
theorem dX6_pass_184 : decode cX6_pass 184 = .ok (.aload 6, 2) := by decide +kernel
theorem dX6_pass_186 : decode cX6_pass 186 = .ok (.getfield 50, 3) := by decide +kernel
theorem dX6_pass_189 : decode cX6_pass 189 = .ok (.iload_n 1, 1) := by decide +kernel
theorem dX6_pass_190 : decode cX6_pass 190 = .ok (.if_icmp .eq 6, 3) := by decide +kernel
theorem dX6_pass_193 : decode cX6_pass 193 = .ok (.goto 292, 3) := by decide +kernel
theorem dX6_pass_196 : decode cX6_pass 196 = .ok (.iload_n 2, 1) := by decide +kernel
theorem dX6_pass_197 : decode cX6_pass 197 = .ok (.ifCond .ne 96, 3) := by decide +kernel
theorem dX6_pass_200 : decode cX6_pass 200 = .ok (.aload 6, 2) := by decide +kernel
theorem dX6_pass_202 : decode cX6_pass 202 = .ok (.getfield 62, 3) := by decide +kernel
theorem dX6_pass_205 : decode cX6_pass 205 = .ok (.ifCond .eq 11, 3) := by decide +kernel
theorem dX6_pass_208 : decode cX6_pass 208 = .ok (.aload 6, 2) := by decide +kernel
theorem dX6_pass_210 : decode cX6_pass 210 = .ok (.getfield 56, 3) := by decide +kernel
theorem dX6_pass_213 : decode cX6_pass 213 = .ok (.goto 10, 3) := by decide +kernel
theorem dX6_pass_216 : decode cX6_pass 216 = .ok (.aload 6, 2) := by decide +kernel
theorem dX6_pass_218 : decode cX6_pass 218 = .ok (.getfield 56, 3) := by decide +kernel
theorem dX6_pass_221 : decode cX6_pass 221 = .ok (.iconst 2, 1) := by decide +kernel
theorem dX6_pass_222 : decode cX6_pass 222 = .ok (.idiv, 1) := by decide +kernel
theorem dX6_pass_223 : decode cX6_pass 223 = .ok (.aload 6, 2) := by decide +kernel
theorem dX6_pass_225 : decode cX6_pass 225 = .ok (.getfield 86, 3) := by decide +kernel
theorem dX6_pass_228 : decode cX6_pass 228 = .ok (.isub, 1) := by decide +kernel
theorem dX6_pass_229 : decode cX6_pass 229 = .ok (.istore 7, 2) := by decide +kernel
theorem dX6_pass_231 : decode cX6_pass 231 = .ok (.iload 7, 2) := by decide +kernel
theorem dX6_pass_233 : decode cX6_pass 233 = .ok (.ifCond .le 10, 3) := by decide +kernel
theorem dX6_pass_236 : decode cX6_pass 236 = .ok (.aload 6, 2) := by decide +kernel
theorem dX6_pass_238 : decode cX6_pass 238 = .ok (.iload 7, 2) := by decide +kernel
theorem dX6_pass_240 : decode cX6_pass 240 = .ok (.invokevirtual 95, 3) := by decide +kernel
theorem dX6_pass_243 : decode cX6_pass 243 = .ok (.aload 6, 2) := by decide +kernel
theorem dX6_pass_245 : decode cX6_pass 245 = .ok (.iconst 0, 1) := by decide +kernel
theorem dX6_pass_246 : decode cX6_pass 246 = .ok (.putfield 86, 3) := by decide +kernel
theorem dX6_pass_249 : decode cX6_pass 249 = .ok (.aload 6, 2) := by decide +kernel
theorem dX6_pass_251 : decode cX6_pass 251 = .ok (.getfield 62, 3) := by decide +kernel
theorem dX6_pass_254 : decode cX6_pass 254 = .ok (.ifCond .ne 39, 3) := by decide +kernel
theorem dX6_pass_257 : decode cX6_pass 257 = .ok (.aload 6, 2) := by decide +kernel
theorem dX6_pass_259 : decode cX6_pass 259 = .ok (.getfield 59, 3) := by decide +kernel
theorem dX6_pass_262 : decode cX6_pass 262 = .ok (.aload_n 0, 1) := by decide +kernel
theorem dX6_pass_263 : decode cX6_pass 263 = .ok (.getfield 13, 3) := by decide +kernel
theorem dX6_pass_266 : decode cX6_pass 266 = .ok (.iconst 1, 1) := by decide +kernel
theorem dX6_pass_267 : decode cX6_pass 267 = .ok (.iadd, 1) := by decide +kernel
theorem dX6_pass_268 : decode cX6_pass 268 = .ok (.if_icmp .le 25, 3) := by decide +kernel
theorem dX6_pass_271 : decode cX6_pass 271 = .ok (.aload 6, 2) := by decide +kernel
theorem dX6_pass_273 : decode cX6_pass 273 = .ok (.dup, 1) := by decide +kernel
theorem dX6_pass_274 : decode cX6_pass 274 = .ok (.getfield 59, 3) := by decide +kernel
theorem dX6_pass_277 : decode cX6_pass 277 = .ok (.aload_n 0, 1) := by decide +kernel
theorem dX6_pass_278 : decode cX6_pass 278 = .ok (.getfield 13, 3) := by decide +kernel
theorem dX6_pass_281 : decode cX6_pass 281 = .ok (.iconst 2, 1) := by decide +kernel
theorem dX6_pass_282 : decode cX6_pass 282 = .ok (.iadd, 1) := by decide +kernel
theorem dX6_pass_283 : decode cX6_pass 283 = .ok (.isub, 1) := by decide +kernel
theorem dX6_pass_284 : decode cX6_pass 284 = .ok (.putfield 59, 3) := by decide +kernel
theorem dX6_pass_287 : decode cX6_pass 287 = .ok (.aload 6, 2) := by decide +kernel
theorem dX6_pass_289 : decode cX6_pass 289 = .ok (.iconst 1, 1) := by decide +kernel
theorem dX6_pass_290 : decode cX6_pass 290 = .ok (.putfield 62, 3) := by decide +kernel
theorem dX6_pass_293 : decode cX6_pass 293 = .ok (.aload 6, 2) := by decide +kernel
theorem dX6_pass_295 : decode cX6_pass 295 = .ok (.getfield 70, 3) := by decide +kernel
theorem dX6_pass_298 : decode cX6_pass 298 = .ok (.ifnonnull 187, 3) := by decide +kernel
theorem dX6_pass_301 : decode cX6_pass 301 = .ok (.aload 6, 2) := by decide +kernel
theorem dX6_pass_303 : decode cX6_pass 303 = .ok (.getfield 77, 3) := by decide +kernel
theorem dX6_pass_306 : decode cX6_pass 306 = .ok (.ifCond .eq 6, 3) := by decide +kernel
theorem dX6_pass_309 : decode cX6_pass 309 = .ok (.goto 176, 3) := by decide +kernel
theorem dX6_pass_312 : decode cX6_pass 312 = .ok (.aload_n 0, 1) := by decide +kernel
theorem dX6_pass_313 : decode cX6_pass 313 = .ok (.aload 6, 2) := by decide +kernel
theorem dX6_pass_315 : decode cX6_pass 315 = .ok (.invokevirtual 99, 3) := by decide +kernel
theorem dX6_pass_318 : decode cX6_pass 318 = .ok (.astore 7, 2) := by decide +kernel
theorem dX6_pass_320 : decode cX6_pass 320 = .ok (.aload 7, 2) := by decide +kernel
theorem dX6_pass_322 : decode cX6_pass 322 = .ok (.ifnonnull 11, 3) := by decide +kernel
theorem dX6_pass_325 : decode cX6_pass 325 = .ok (.iload_n 2, 1) := by decide +kernel
theorem dX6_pass_326 : decode cX6_pass 326 = .ok (.iconst 4, 1) := by decide +kernel
theorem dX6_pass_327 : decode cX6_pass 327 = .ok (.if_icmp .ge 6, 3) := by decide +kernel
theorem dX6_pass_330 : decode cX6_pass 330 = .ok (.goto 155, 3) := by decide +kernel
theorem dX6_pass_333 : decode cX6_pass 333 = .ok (.aload 7, 2) := by decide +kernel
theorem dX6_pass_335 : decode cX6_pass 335 = .ok (.ifnull 57, 3) := by decide +kernel
theorem dX6_pass_338 : decode cX6_pass 338 = .ok (.aload 6, 2) := by decide +kernel
theorem dX6_pass_340 : decode cX6_pass 340 = .ok (.getfield 59, 3) := by decide +kernel
theorem dX6_pass_343 : decode cX6_pass 343 = .ok (.aload 7, 2) := by decide +kernel
theorem dX6_pass_345 : decode cX6_pass 345 = .ok (.getfield 36, 3) := by decide +kernel
theorem dX6_pass_348 : decode cX6_pass 348 = .ok (.if_icmp .ge 44, 3) := by decide +kernel
theorem dX6_pass_351 : decode cX6_pass 351 = .ok (.aload 6, 2) := by decide +kernel
theorem dX6_pass_353 : decode cX6_pass 353 = .ok (.getfield 62, 3) := by decide +kernel
theorem dX6_pass_356 : decode cX6_pass 356 = .ok (.ifCond .eq 36, 3) := by decide +kernel
theorem dX6_pass_359 : decode cX6_pass 359 = .ok (.aload 6, 2) := by decide +kernel
theorem dX6_pass_361 : decode cX6_pass 361 = .ok (.getfield 59, 3) := by decide +kernel
theorem dX6_pass_364 : decode cX6_pass 364 = .ok (.aload_n 0, 1) := by decide +kernel
theorem dX6_pass_365 : decode cX6_pass 365 = .ok (.getfield 13, 3) := by decide +kernel
theorem dX6_pass_368 : decode cX6_pass 368 = .ok (.iadd, 1) := by decide +kernel
theorem dX6_pass_369 : decode cX6_pass 369 = .ok (.aload 7, 2) := by decide +kernel
theorem dX6_pass_371 : decode cX6_pass 371 = .ok (.getfield 36, 3) := by decide +kernel
theorem dX6_pass_374 : decode cX6_pass 374 = .ok (.if_icmp .lt 18, 3) := by decide +kernel
theorem dX6_pass_377 : decode cX6_pass 377 = .ok (.aload 6, 2) := by decide +kernel
theorem dX6_pass_379 : decode cX6_pass 379 = .ok (.iconst 0, 1) := by decide +kernel
theorem dX6_pass_380 : decode cX6_pass 380 = .ok (.putfield 62, 3) := by decide +kernel
theorem dX6_pass_383 : decode cX6_pass 383 = .ok (.aload 6, 2) := by decide +kernel
theorem dX6_pass_385 : decode cX6_pass 385 = .ok (.aload_n 0, 1) := by decide +kernel
theorem dX6_pass_386 : decode cX6_pass 386 = .ok (.getfield 13, 3) := by decide +kernel
theorem dX6_pass_389 : decode cX6_pass 389 = .ok (.invokevirtual 95, 3) := by decide +kernel
theorem dX6_pass_392 : decode cX6_pass 392 = .ok (.aload 7, 2) := by decide +kernel
theorem dX6_pass_394 : decode cX6_pass 394 = .ok (.ifnull 16, 3) := by decide +kernel
theorem dX6_pass_397 : decode cX6_pass 397 = .ok (.aload 6, 2) := by decide +kernel
theorem dX6_pass_399 : decode cX6_pass 399 = .ok (.getfield 59, 3) := by decide +kernel
theorem dX6_pass_402 : decode cX6_pass 402 = .ok (.aload 7, 2) := by decide +kernel
theorem dX6_pass_404 : decode cX6_pass 404 = .ok (.getfield 36, 3) := by decide +kernel
theorem dX6_pass_407 : decode cX6_pass 407 = .ok (.if_icmp .ge 23, 3) := by decide +kernel
theorem dX6_pass_410 : decode cX6_pass 410 = .ok (.aload 6, 2) := by decide +kernel
theorem dX6_pass_412 : decode cX6_pass 412 = .ok (.iconst 1, 1) := by decide +kernel
theorem dX6_pass_413 : decode cX6_pass 413 = .ok (.putfield 77, 3) := by decide +kernel
theorem dX6_pass_416 : decode cX6_pass 416 = .ok (.aload 6, 2) := by decide +kernel
theorem dX6_pass_418 : decode cX6_pass 418 = .ok (.dup, 1) := by decide +kernel
theorem dX6_pass_419 : decode cX6_pass 419 = .ok (.getfield 89, 3) := by decide +kernel
theorem dX6_pass_422 : decode cX6_pass 422 = .ok (.iconst 1, 1) := by decide +kernel
theorem dX6_pass_423 : decode cX6_pass 423 = .ok (.iadd, 1) := by decide +kernel
theorem dX6_pass_424 : decode cX6_pass 424 = .ok (.putfield 89, 3) := by decide +kernel
theorem dX6_pass_427 : decode cX6_pass 427 = .ok (.goto 58, 3) := by decide +kernel
theorem dX6_pass_430 : decode cX6_pass 430 = .ok (.aload 6, 2) := by decide +kernel
theorem dX6_pass_432 : decode cX6_pass 432 = .ok (.dup, 1) := by decide +kernel
theorem dX6_pass_433 : decode cX6_pass 433 = .ok (.getfield 59, 3) := by decide +kernel
theorem dX6_pass_436 : decode cX6_pass 436 = .ok (.aload 7, 2) := by decide +kernel
theorem dX6_pass_438 : decode cX6_pass 438 = .ok (.getfield 36, 3) := by decide +kernel
theorem dX6_pass_441 : decode cX6_pass 441 = .ok (.isub, 1) := by decide +kernel
theorem dX6_pass_442 : decode cX6_pass 442 = .ok (.putfield 59, 3) := by decide +kernel
theorem dX6_pass_445 : decode cX6_pass 445 = .ok (.aload 7, 2) := by decide +kernel
theorem dX6_pass_447 : decode cX6_pass 447 = .ok (.dup, 1) := by decide +kernel
theorem dX6_pass_448 : decode cX6_pass 448 = .ok (.getfield 45, 3) := by decide +kernel
theorem dX6_pass_451 : decode cX6_pass 451 = .ok (.aload 7, 2) := by decide +kernel
theorem dX6_pass_453 : decode cX6_pass 453 = .ok (.getfield 36, 3) := by decide +kernel
theorem dX6_pass_456 : decode cX6_pass 456 = .ok (.iadd, 1) := by decide +kernel
theorem dX6_pass_457 : decode cX6_pass 457 = .ok (.putfield 45, 3) := by decide +kernel
theorem dX6_pass_460 : decode cX6_pass 460 = .ok (.aload 7, 2) := by decide +kernel
theorem dX6_pass_462 : decode cX6_pass 462 = .ok (.dup, 1) := by decide +kernel
theorem dX6_pass_463 : decode cX6_pass 463 = .ok (.getfield 42, 3) := by decide +kernel
theorem dX6_pass_466 : decode cX6_pass 466 = .ok (.iconst 1, 1) := by decide +kernel
theorem dX6_pass_467 : decode cX6_pass 467 = .ok (.iadd, 1) := by decide +kernel
theorem dX6_pass_468 : decode cX6_pass 468 = .ok (.putfield 42, 3) := by decide +kernel
theorem dX6_pass_471 : decode cX6_pass 471 = .ok (.aload 7, 2) := by decide +kernel
theorem dX6_pass_473 : decode cX6_pass 473 = .ok (.aload 6, 2) := by decide +kernel
theorem dX6_pass_475 : decode cX6_pass 475 = .ok (.putfield 73, 3) := by decide +kernel
theorem dX6_pass_478 : decode cX6_pass 478 = .ok (.aload 6, 2) := by decide +kernel
theorem dX6_pass_480 : decode cX6_pass 480 = .ok (.aload 7, 2) := by decide +kernel
theorem dX6_pass_482 : decode cX6_pass 482 = .ok (.putfield 70, 3) := by decide +kernel
theorem dX6_pass_485 : decode cX6_pass 485 = .ok (.iinc 5 1, 3) := by decide +kernel
theorem dX6_pass_488 : decode cX6_pass 488 = .ok (.goto (-317), 3) := by decide +kernel
theorem dX6_pass_491 : decode cX6_pass 491 = .ok (.aload_n 0, 1) := by decide +kernel
theorem dX6_pass_492 : decode cX6_pass 492 = .ok (.getfield 24, 3) := by decide +kernel
theorem dX6_pass_495 : decode cX6_pass 495 = .ok (.astore_n 3, 1) := by decide +kernel
theorem dX6_pass_496 : decode cX6_pass 496 = .ok (.aload_n 3, 1) := by decide +kernel
theorem dX6_pass_497 : decode cX6_pass 497 = .ok (.arraylength, 1) := by decide +kernel
theorem dX6_pass_498 : decode cX6_pass 498 = .ok (.istore 4, 2) := by decide +kernel
theorem dX6_pass_500 : decode cX6_pass 500 = .ok (.iconst 0, 1) := by decide +kernel
theorem dX6_pass_501 : decode cX6_pass 501 = .ok (.istore 5, 2) := by decide +kernel
theorem dX6_pass_503 : decode cX6_pass 503 = .ok (.iload 5, 2) := by decide +kernel
theorem dX6_pass_505 : decode cX6_pass 505 = .ok (.iload 4, 2) := by decide +kernel
theorem dX6_pass_507 : decode cX6_pass 507 = .ok (.if_icmp .ge 76, 3) := by decide +kernel
theorem dX6_pass_510 : decode cX6_pass 510 = .ok (.aload_n 3, 1) := by decide +kernel
theorem dX6_pass_511 : decode cX6_pass 511 = .ok (.iload 5, 2) := by decide +kernel
theorem dX6_pass_513 : decode cX6_pass 513 = .ok (.aaload, 1) := by decide +kernel
theorem dX6_pass_514 : decode cX6_pass 514 = .ok (.astore 6, 2) := by decide +kernel
theorem dX6_pass_516 : decode cX6_pass 516 = .ok (.aload 6, 2) := by decide +kernel
theorem dX6_pass_518 : decode cX6_pass 518 = .ok (.dup, 1) := by decide +kernel
theorem dX6_pass_519 : decode cX6_pass 519 = .ok (.getfield 80, 3) := by decide +kernel
theorem dX6_pass_522 : decode cX6_pass 522 = .ok (.aload 6, 2) := by decide +kernel
theorem dX6_pass_524 : decode cX6_pass 524 = .ok (.getfield 70, 3) := by decide +kernel
theorem dX6_pass_527 : decode cX6_pass 527 = .ok (.ifnull 23, 3) := by decide +kernel
theorem dX6_pass_530 : decode cX6_pass 530 = .ok (.aload 6, 2) := by decide +kernel
theorem dX6_pass_532 : decode cX6_pass 532 = .ok (.getfield 70, 3) := by decide +kernel
theorem dX6_pass_535 : decode cX6_pass 535 = .ok (.getfield 39, 3) := by decide +kernel
theorem dX6_pass_538 : decode cX6_pass 538 = .ok (.iconst 3, 1) := by decide +kernel
theorem dX6_pass_539 : decode cX6_pass 539 = .ok (.if_icmp .le 7, 3) := by decide +kernel
theorem dX6_pass_542 : decode cX6_pass 542 = .ok (.iconst 2, 1) := by decide +kernel
theorem dX6_pass_543 : decode cX6_pass 543 = .ok (.goto 30, 3) := by decide +kernel
theorem dX6_pass_546 : decode cX6_pass 546 = .ok (.iconst 1, 1) := by decide +kernel
theorem dX6_pass_547 : decode cX6_pass 547 = .ok (.goto 26, 3) := by decide +kernel
theorem dX6_pass_550 : decode cX6_pass 550 = .ok (.aload 6, 2) := by decide +kernel
theorem dX6_pass_552 : decode cX6_pass 552 = .ok (.getfield 77, 3) := by decide +kernel
theorem dX6_pass_555 : decode cX6_pass 555 = .ok (.ifCond .eq 17, 3) := by decide +kernel
theorem dX6_pass_558 : decode cX6_pass 558 = .ok (.aload_n 0, 1) := by decide +kernel
theorem dX6_pass_559 : decode cX6_pass 559 = .ok (.getfield 29, 3) := by decide +kernel
theorem dX6_pass_562 : decode cX6_pass 562 = .ok (.iconst 2, 1) := by decide +kernel
theorem dX6_pass_563 : decode cX6_pass 563 = .ok (.irem, 1) := by decide +kernel
theorem dX6_pass_564 : decode cX6_pass 564 = .ok (.iconst 1, 1) := by decide +kernel
theorem dX6_pass_565 : decode cX6_pass 565 = .ok (.if_icmp .ne 7, 3) := by decide +kernel
theorem dX6_pass_568 : decode cX6_pass 568 = .ok (.iconst 1, 1) := by decide +kernel
theorem dX6_pass_569 : decode cX6_pass 569 = .ok (.goto 4, 3) := by decide +kernel
theorem dX6_pass_572 : decode cX6_pass 572 = .ok (.iconst 0, 1) := by decide +kernel
theorem dX6_pass_573 : decode cX6_pass 573 = .ok (.iadd, 1) := by decide +kernel
theorem dX6_pass_574 : decode cX6_pass 574 = .ok (.putfield 80, 3) := by decide +kernel
theorem dX6_pass_577 : decode cX6_pass 577 = .ok (.iinc 5 1, 3) := by decide +kernel
theorem dX6_pass_580 : decode cX6_pass 580 = .ok (.goto (-77), 3) := by decide +kernel
theorem dX6_pass_583 : decode cX6_pass 583 = .ok (.aload_n 0, 1) := by decide +kernel
theorem dX6_pass_584 : decode cX6_pass 584 = .ok (.getfield 18, 3) := by decide +kernel
theorem dX6_pass_587 : decode cX6_pass 587 = .ok (.astore_n 3, 1) := by decide +kernel
theorem dX6_pass_588 : decode cX6_pass 588 = .ok (.aload_n 3, 1) := by decide +kernel
theorem dX6_pass_589 : decode cX6_pass 589 = .ok (.arraylength, 1) := by decide +kernel
theorem dX6_pass_590 : decode cX6_pass 590 = .ok (.istore 4, 2) := by decide +kernel
theorem dX6_pass_592 : decode cX6_pass 592 = .ok (.iconst 0, 1) := by decide +kernel
theorem dX6_pass_593 : decode cX6_pass 593 = .ok (.istore 5, 2) := by decide +kernel
theorem dX6_pass_595 : decode cX6_pass 595 = .ok (.iload 5, 2) := by decide +kernel
theorem dX6_pass_597 : decode cX6_pass 597 = .ok (.iload 4, 2) := by decide +kernel
theorem dX6_pass_599 : decode cX6_pass 599 = .ok (.if_icmp .ge 76, 3) := by decide +kernel
theorem dX6_pass_602 : decode cX6_pass 602 = .ok (.aload_n 3, 1) := by decide +kernel
theorem dX6_pass_603 : decode cX6_pass 603 = .ok (.iload 5, 2) := by decide +kernel
theorem dX6_pass_605 : decode cX6_pass 605 = .ok (.aaload, 1) := by decide +kernel
theorem dX6_pass_606 : decode cX6_pass 606 = .ok (.astore 6, 2) := by decide +kernel
theorem dX6_pass_608 : decode cX6_pass 608 = .ok (.aload 6, 2) := by decide +kernel
theorem dX6_pass_610 : decode cX6_pass 610 = .ok (.getfield 73, 3) := by decide +kernel
theorem dX6_pass_613 : decode cX6_pass 613 = .ok (.ifnull 32, 3) := by decide +kernel
theorem dX6_pass_616 : decode cX6_pass 616 = .ok (.aload 6, 2) := by decide +kernel
theorem dX6_pass_618 : decode cX6_pass 618 = .ok (.aload 6, 2) := by decide +kernel
theorem dX6_pass_620 : decode cX6_pass 620 = .ok (.getfield 39, 3) := by decide +kernel
theorem dX6_pass_623 : decode cX6_pass 623 = .ok (.iconst 5, 1) := by decide +kernel
theorem dX6_pass_624 : decode cX6_pass 624 = .ok (.if_icmp .le 8, 3) := by decide +kernel
theorem dX6_pass_627 : decode cX6_pass 627 = .ok (.bipush 8, 2) := by decide +kernel
theorem dX6_pass_629 : decode cX6_pass 629 = .ok (.goto 10, 3) := by decide +kernel
theorem dX6_pass_632 : decode cX6_pass 632 = .ok (.aload 6, 2) := by decide +kernel
theorem dX6_pass_634 : decode cX6_pass 634 = .ok (.getfield 39, 3) := by decide +kernel
theorem dX6_pass_637 : decode cX6_pass 637 = .ok (.iconst 2, 1) := by decide +kernel
theorem dX6_pass_638 : decode cX6_pass 638 = .ok (.iadd, 1) := by decide +kernel
theorem dX6_pass_639 : decode cX6_pass 639 = .ok (.putfield 39, 3) := by decide +kernel
theorem dX6_pass_642 : decode cX6_pass 642 = .ok (.goto 27, 3) := by decide +kernel
theorem dX6_pass_645 : decode cX6_pass 645 = .ok (.aload 6, 2) := by decide +kernel
theorem dX6_pass_647 : decode cX6_pass 647 = .ok (.aload 6, 2) := by decide +kernel
theorem dX6_pass_649 : decode cX6_pass 649 = .ok (.getfield 39, 3) := by decide +kernel
theorem dX6_pass_652 : decode cX6_pass 652 = .ok (.ifCond .le 13, 3) := by decide +kernel
theorem dX6_pass_655 : decode cX6_pass 655 = .ok (.aload 6, 2) := by decide +kernel
theorem dX6_pass_657 : decode cX6_pass 657 = .ok (.getfield 39, 3) := by decide +kernel
theorem dX6_pass_660 : decode cX6_pass 660 = .ok (.iconst 1, 1) := by decide +kernel
theorem dX6_pass_661 : decode cX6_pass 661 = .ok (.isub, 1) := by decide +kernel
theorem dX6_pass_662 : decode cX6_pass 662 = .ok (.goto 4, 3) := by decide +kernel
theorem dX6_pass_665 : decode cX6_pass 665 = .ok (.iconst 0, 1) := by decide +kernel
theorem dX6_pass_666 : decode cX6_pass 666 = .ok (.putfield 39, 3) := by decide +kernel
theorem dX6_pass_669 : decode cX6_pass 669 = .ok (.iinc 5 1, 3) := by decide +kernel
theorem dX6_pass_672 : decode cX6_pass 672 = .ok (.goto (-77), 3) := by decide +kernel
theorem dX6_pass_675 : decode cX6_pass 675 = .ok (.aload_n 0, 1) := by decide +kernel
theorem dX6_pass_676 : decode cX6_pass 676 = .ok (.dup, 1) := by decide +kernel
theorem dX6_pass_677 : decode cX6_pass 677 = .ok (.getfield 29, 3) := by decide +kernel
theorem dX6_pass_680 : decode cX6_pass 680 = .ok (.iconst 1, 1) := by decide +kernel
theorem dX6_pass_681 : decode cX6_pass 681 = .ok (.iadd, 1) := by decide +kernel
theorem dX6_pass_682 : decode cX6_pass 682 = .ok (.putfield 29, 3) := by decide +kernel
theorem dX6_pass_685 : decode cX6_pass 685 = .ok (.return_, 1) := by decide +kernel
set_option maxRecDepth 20000 in
theorem ggX6_behind_X6_pass : GoodIn wsX6_behind wsX6_pass := goodIn_r _ [5, 6, 7, 8, 9, 10, 11, 12, 13, 14, 15, 16, 17, 18, 19, 20, 21, 22, 23, 24, 25, 26, 27, 28, 29, 30, 31, 32, 33, 34, 35, 36, 37, 38, 39, 40, 41, 42, 4, 43, 44, 45, 46, 47, 48, 49, 50, 51, 52, 53, 54, 55, 56, 57, 58, 59, 60, 61, 62, 63, 64, 65, 66, 67, 68] (by decide +kernel) (by decide +kernel)
set_option maxRecDepth 20000 in
theorem gX6_behind_X6_pass : GoodIn wsX6_behind (wsV RX6 103 RX6 yX6_pass wsX6_pass) := goodIn_app (goodIn_of _ (by decide +kernel)) ggX6_behind_X6_pass
theorem dX6_behind_0 : decode cX6_behind 0 = .ok (.iconst 0, 1) := by decide +kernel
theorem dX6_behind_1 : decode cX6_behind 1 = .ok (.istore_n 2, 1) := by decide +kernel
theorem dX6_behind_2 : decode cX6_behind 2 = .ok (.iload_n 2, 1) := by decide +kernel
theorem dX6_behind_3 : decode cX6_behind 3 = .ok (.iload_n 1, 1) := by decide +kernel
theorem dX6_behind_4 : decode cX6_behind 4 = .ok (.if_icmp .ge 13, 3) := by decide +kernel
theorem dX6_behind_7 : decode cX6_behind 7 = .ok (.aload_n 0, 1) := by decide +kernel
theorem dX6_behind_8 : decode cX6_behind 8 = .ok (.invokevirtual 103, 3) := by decide +kernel
theorem dX6_behind_11 : decode cX6_behind 11 = .ok (.iinc 2 1, 3) := by decide +kernel
theorem dX6_behind_14 : decode cX6_behind 14 = .ok (.goto (-12), 3) := by decide +kernel
theorem dX6_behind_17 : decode cX6_behind 17 = .ok (.aload_n 0, 1) := by decide +kernel
theorem dX6_behind_18 : decode cX6_behind 18 = .ok (.areturn, 1) := by decide +kernel
theorem dX6_sums_0 : decode cX6_sums 0 = .ok (.iconst 4, 1) := by decide +kernel
theorem dX6_sums_1 : decode cX6_sums 1 = .ok (.newarray .int, 2) := by decide +kernel
theorem dX6_sums_3 : decode cX6_sums 3 = .ok (.astore_n 1, 1) := by decide +kernel
theorem dX6_sums_4 : decode cX6_sums 4 = .ok (.aload_n 0, 1) := by decide +kernel
theorem dX6_sums_5 : decode cX6_sums 5 = .ok (.getfield 24, 3) := by decide +kernel
theorem dX6_sums_8 : decode cX6_sums 8 = .ok (.astore_n 2, 1) := by decide +kernel
theorem dX6_sums_9 : decode cX6_sums 9 = .ok (.aload_n 2, 1) := by decide +kernel
theorem dX6_sums_10 : decode cX6_sums 10 = .ok (.arraylength, 1) := by decide +kernel
theorem dX6_sums_11 : decode cX6_sums 11 = .ok (.istore_n 3, 1) := by decide +kernel
theorem dX6_sums_12 : decode cX6_sums 12 = .ok (.iconst 0, 1) := by decide +kernel
theorem dX6_sums_13 : decode cX6_sums 13 = .ok (.istore 4, 2) := by decide +kernel
theorem dX6_sums_15 : decode cX6_sums 15 = .ok (.iload 4, 2) := by decide +kernel
theorem dX6_sums_17 : decode cX6_sums 17 = .ok (.iload_n 3, 1) := by decide +kernel
theorem dX6_sums_18 : decode cX6_sums 18 = .ok (.if_icmp .ge 75, 3) := by decide +kernel
theorem dX6_sums_21 : decode cX6_sums 21 = .ok (.aload_n 2, 1) := by decide +kernel
theorem dX6_sums_22 : decode cX6_sums 22 = .ok (.iload 4, 2) := by decide +kernel
theorem dX6_sums_24 : decode cX6_sums 24 = .ok (.aaload, 1) := by decide +kernel
theorem dX6_sums_25 : decode cX6_sums 25 = .ok (.astore 5, 2) := by decide +kernel
theorem dX6_sums_27 : decode cX6_sums 27 = .ok (.aload_n 1, 1) := by decide +kernel
theorem dX6_sums_28 : decode cX6_sums 28 = .ok (.iconst 0, 1) := by decide +kernel
theorem dX6_sums_29 : decode cX6_sums 29 = .ok (.dup2, 1) := by decide +kernel
theorem dX6_sums_30 : decode cX6_sums 30 = .ok (.iaload, 1) := by decide +kernel
theorem dX6_sums_31 : decode cX6_sums 31 = .ok (.aload 5, 2) := by decide +kernel
theorem dX6_sums_33 : decode cX6_sums 33 = .ok (.getfield 70, 3) := by decide +kernel
theorem dX6_sums_36 : decode cX6_sums 36 = .ok (.ifnull 7, 3) := by decide +kernel
theorem dX6_sums_39 : decode cX6_sums 39 = .ok (.iconst 1, 1) := by decide +kernel
theorem dX6_sums_40 : decode cX6_sums 40 = .ok (.goto 4, 3) := by decide +kernel
theorem dX6_sums_43 : decode cX6_sums 43 = .ok (.iconst 0, 1) := by decide +kernel
theorem dX6_sums_44 : decode cX6_sums 44 = .ok (.iadd, 1) := by decide +kernel
theorem dX6_sums_45 : decode cX6_sums 45 = .ok (.iastore, 1) := by decide +kernel
theorem dX6_sums_46 : decode cX6_sums 46 = .ok (.aload_n 1, 1) := by decide +kernel
theorem dX6_sums_47 : decode cX6_sums 47 = .ok (.iconst 1, 1) := by decide +kernel
theorem dX6_sums_48 : decode cX6_sums 48 = .ok (.dup2, 1) := by decide +kernel
theorem dX6_sums_49 : decode cX6_sums 49 = .ok (.iaload, 1) := by decide +kernel
theorem dX6_sums_50 : decode cX6_sums 50 = .ok (.aload 5, 2) := by decide +kernel
theorem dX6_sums_52 : decode cX6_sums 52 = .ok (.getfield 77, 3) := by decide +kernel
theorem dX6_sums_55 : decode cX6_sums 55 = .ok (.ifCond .eq 7, 3) := by decide +kernel
theorem dX6_sums_58 : decode cX6_sums 58 = .ok (.iconst 1, 1) := by decide +kernel
theorem dX6_sums_59 : decode cX6_sums 59 = .ok (.goto 4, 3) := by decide +kernel
theorem dX6_sums_62 : decode cX6_sums 62 = .ok (.iconst 0, 1) := by decide +kernel
theorem dX6_sums_63 : decode cX6_sums 63 = .ok (.iadd, 1) := by decide +kernel
theorem dX6_sums_64 : decode cX6_sums 64 = .ok (.iastore, 1) := by decide +kernel
theorem dX6_sums_65 : decode cX6_sums 65 = .ok (.aload_n 1, 1) := by decide +kernel
theorem dX6_sums_66 : decode cX6_sums 66 = .ok (.iconst 2, 1) := by decide +kernel
theorem dX6_sums_67 : decode cX6_sums 67 = .ok (.dup2, 1) := by decide +kernel
theorem dX6_sums_68 : decode cX6_sums 68 = .ok (.iaload, 1) := by decide +kernel
theorem dX6_sums_69 : decode cX6_sums 69 = .ok (.aload 5, 2) := by decide +kernel
theorem dX6_sums_71 : decode cX6_sums 71 = .ok (.getfield 83, 3) := by decide +kernel
theorem dX6_sums_74 : decode cX6_sums 74 = .ok (.iadd, 1) := by decide +kernel
theorem dX6_sums_75 : decode cX6_sums 75 = .ok (.iastore, 1) := by decide +kernel
theorem dX6_sums_76 : decode cX6_sums 76 = .ok (.aload_n 1, 1) := by decide +kernel
theorem dX6_sums_77 : decode cX6_sums 77 = .ok (.iconst 3, 1) := by decide +kernel
theorem dX6_sums_78 : decode cX6_sums 78 = .ok (.dup2, 1) := by decide +kernel
theorem dX6_sums_79 : decode cX6_sums 79 = .ok (.iaload, 1) := by decide +kernel
theorem dX6_sums_80 : decode cX6_sums 80 = .ok (.aload 5, 2) := by decide +kernel
theorem dX6_sums_82 : decode cX6_sums 82 = .ok (.getfield 89, 3) := by decide +kernel
theorem dX6_sums_85 : decode cX6_sums 85 = .ok (.iadd, 1) := by decide +kernel
theorem dX6_sums_86 : decode cX6_sums 86 = .ok (.iastore, 1) := by decide +kernel
theorem dX6_sums_87 : decode cX6_sums 87 = .ok (.iinc 4 1, 3) := by decide +kernel
theorem dX6_sums_90 : decode cX6_sums 90 = .ok (.goto (-75), 3) := by decide +kernel
theorem dX6_sums_93 : decode cX6_sums 93 = .ok (.aload_n 1, 1) := by decide +kernel
theorem dX6_sums_94 : decode cX6_sums 94 = .ok (.areturn, 1) := by decide +kernel
