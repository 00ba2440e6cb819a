theorem dX2_init__0 : decode cX2_init_ 0 = .ok (.aload_n 0, 1) := by decide +kernel
theorem dX2_init__1 : decode cX2_init_ 1 = .ok (.iconst 1, 1) := by decide +kernel
theorem dX2_init__2 : decode cX2_init_ 2 = .ok (.putfield 28, 3) := by decide +kernel
theorem dX2_init__5 : decode cX2_init_ 5 = .ok (.aload_n 0, 1) := by decide +kernel
theorem dX2_init__6 : decode cX2_init_ 6 = .ok (.iconst 0, 1) := by decide +kernel
theorem dX2_init__7 : decode cX2_init_ 7 = .ok (.putfield 32, 3) := by decide +kernel
theorem dX2_init__10 : decode cX2_init_ 10 = .ok (.aload_n 0, 1) := by decide +kernel
theorem dX2_init__11 : decode cX2_init_ 11 = .ok (.iconst 0, 1) := by decide +kernel
theorem dX2_init__12 : decode cX2_init_ 12 = .ok (.putfield 35, 3) := by decide +kernel
theorem dX2_init__15 : decode cX2_init_ 15 = .ok (.iconst 0, 1) := by decide +kernel
theorem dX2_init__16 : decode cX2_init_ 16 = .ok (.istore_n 1, 1) := by decide +kernel
theorem dX2_init__17 : decode cX2_init_ 17 = .ok (.iload_n 1, 1) := by decide +kernel
theorem dX2_init__18 : decode cX2_init_ 18 = .ok (.bipush 32, 2) := by decide +kernel
theorem dX2_init__20 : decode cX2_init_ 20 = .ok (.if_icmp .ge 16, 3) := by decide +kernel
theorem dX2_init__23 : decode cX2_init_ 23 = .ok (.aload_n 0, 1) := by decide +kernel
theorem dX2_init__24 : decode cX2_init_ 24 = .ok (.getfield 7, 3) := by decide +kernel
theorem dX2_init__27 : decode cX2_init_ 27 = .ok (.iload_n 1, 1) := by decide +kernel
theorem dX2_init__28 : decode cX2_init_ 28 = .ok (.iconst 0, 1) := by decide +kernel
theorem dX2_init__29 : decode cX2_init_ 29 = .ok (.iastore, 1) := by decide +kernel
theorem dX2_init__30 : decode cX2_init_ 30 = .ok (.iinc 1 1, 3) := by decide +kernel
theorem dX2_init__33 : decode cX2_init_ 33 = .ok (.goto (-16), 3) := by decide +kernel
theorem dX2_init__36 : decode cX2_init_ 36 = .ok (.return_, 1) := by decide +kernel
theorem dX2_setKeyByte_0 : decode cX2_setKeyByte 0 = .ok (.iload_n 1, 1) := by decide +kernel
theorem dX2_setKeyByte_1 : decode cX2_setKeyByte 1 = .ok (.ifCond .lt 31, 3) := by decide +kernel
theorem dX2_setKeyByte_4 : decode cX2_setKeyByte 4 = .ok (.iload_n 1, 1) := by decide +kernel
theorem dX2_setKeyByte_5 : decode cX2_setKeyByte 5 = .ok (.bipush 32, 2) := by decide +kernel
theorem dX2_setKeyByte_7 : decode cX2_setKeyByte 7 = .ok (.if_icmp .ge 25, 3) := by decide +kernel
theorem dX2_setKeyByte_10 : decode cX2_setKeyByte 10 = .ok (.iload_n 2, 1) := by decide +kernel
theorem dX2_setKeyByte_11 : decode cX2_setKeyByte 11 = .ok (.ifCond .lt 21, 3) := by decide +kernel
theorem dX2_setKeyByte_14 : decode cX2_setKeyByte 14 = .ok (.iload_n 2, 1) := by decide +kernel
theorem dX2_setKeyByte_15 : decode cX2_setKeyByte 15 = .ok (.sipush 256, 3) := by decide +kernel
theorem dX2_setKeyByte_18 : decode cX2_setKeyByte 18 = .ok (.if_icmp .ge 14, 3) := by decide +kernel
theorem dX2_setKeyByte_21 : decode cX2_setKeyByte 21 = .ok (.aload_n 0, 1) := by decide +kernel
theorem dX2_setKeyByte_22 : decode cX2_setKeyByte 22 = .ok (.getfield 32, 3) := by decide +kernel
theorem dX2_setKeyByte_25 : decode cX2_setKeyByte 25 = .ok (.ifCond .ne 7, 3) := by decide +kernel
theorem dX2_setKeyByte_28 : decode cX2_setKeyByte 28 = .ok (.iconst 1, 1) := by decide +kernel
theorem dX2_setKeyByte_29 : decode cX2_setKeyByte 29 = .ok (.goto 4, 3) := by decide +kernel
theorem dX2_setKeyByte_32 : decode cX2_setKeyByte 32 = .ok (.iconst 0, 1) := by decide +kernel
theorem dX2_setKeyByte_33 : decode cX2_setKeyByte 33 = .ok (.istore_n 3, 1) := by decide +kernel
theorem dX2_setKeyByte_34 : decode cX2_setKeyByte 34 = .ok (.iload_n 3, 1) := by decide +kernel
theorem dX2_setKeyByte_35 : decode cX2_setKeyByte 35 = .ok (.ifCond .eq 10, 3) := by decide +kernel
theorem dX2_setKeyByte_38 : decode cX2_setKeyByte 38 = .ok (.aload_n 0, 1) := by decide +kernel
theorem dX2_setKeyByte_39 : decode cX2_setKeyByte 39 = .ok (.getfield 7, 3) := by decide +kernel
theorem dX2_setKeyByte_42 : decode cX2_setKeyByte 42 = .ok (.iload_n 1, 1) := by decide +kernel
theorem dX2_setKeyByte_43 : decode cX2_setKeyByte 43 = .ok (.iload_n 2, 1) := by decide +kernel
theorem dX2_setKeyByte_44 : decode cX2_setKeyByte 44 = .ok (.iastore, 1) := by decide +kernel
theorem dX2_setKeyByte_45 : decode cX2_setKeyByte 45 = .ok (.iload_n 3, 1) := by decide +kernel
theorem dX2_setKeyByte_46 : decode cX2_setKeyByte 46 = .ok (.ireturn, 1) := by decide +kernel
theorem dX2_first_0 : decode cX2_first 0 = .ok (.iload_n 0, 1) := by decide +kernel
theorem dX2_first_1 : decode cX2_first 1 = .ok (.tableswitch 64 0 6 #[43, 46, 49, 52, 55, 58, 61], 43) := by decide +kernel
theorem dX2_first_44 : decode cX2_first 44 = .ok (.ldc 38, 2) := by decide +kernel
theorem dX2_first_46 : decode cX2_first 46 = .ok (.ireturn, 1) := by decide +kernel
theorem dX2_first_47 : decode cX2_first 47 = .ok (.ldc 39, 2) := by decide +kernel
theorem dX2_first_49 : decode cX2_first 49 = .ok (.ireturn, 1) := by decide +kernel
theorem dX2_first_50 : decode cX2_first 50 = .ok (.ldc 40, 2) := by decide +kernel
theorem dX2_first_52 : decode cX2_first 52 = .ok (.ireturn, 1) := by decide +kernel
theorem dX2_first_53 : decode cX2_first 53 = .ok (.ldc 41, 2) := by decide +kernel
theorem dX2_first_55 : decode cX2_first 55 = .ok (.ireturn, 1) := by decide +kernel
theorem dX2_first_56 : decode cX2_first 56 = .ok (.ldc 42, 2) := by decide +kernel
theorem dX2_first_58 : decode cX2_first 58 = .ok (.ireturn, 1) := by decide +kernel
theorem dX2_first_59 : decode cX2_first 59 = .ok (.ldc 43, 2) := by decide +kernel
theorem dX2_first_61 : decode cX2_first 61 = .ok (.ireturn, 1) := by decide +kernel
theorem dX2_first_62 : decode cX2_first 62 = .ok (.ldc 44, 2) := by decide +kernel
theorem dX2_first_64 : decode cX2_first 64 = .ok (.ireturn, 1) := by decide +kernel
theorem dX2_first_65 : decode cX2_first 65 = .ok (.ldc 45, 2) := by decide +kernel
theorem dX2_first_67 : decode cX2_first 67 = .ok (.ireturn, 1) := by decide +kernel
set_option maxRecDepth 20000 in
theorem ggX2_start_X2_first : GoodIn wsX2_start wsX2_first := goodIn_r _ [14, 15, 16, 17, 18, 19, 20, 21, 22] rfl (by decide +kernel)
set_option maxRecDepth 20000 in
theorem gX2_start_X2_first : GoodIn wsX2_start (va_wsS RX2 46 yX2_first wsX2_first) := goodIn_app (goodIn_of _ (by decide +kernel)) ggX2_start_X2_first
set_option maxRecDepth 20000 in
theorem ggX2_start_X2_take : GoodIn wsX2_start wsX2_take := goodIn_r _ [26, 5, 6, 27, 28, 29, 30, 31, 13, 32, 33, 34, 2, 35, 11, 12, 14, 15, 16, 17, 18, 19, 20, 21, 22, 36, 37, 38, 39, 40, 41, 42, 43, 44, 45, 46, 47, 48, 49, 50, 51, 52, 53, 54, 55] rfl (by decide +kernel)
set_option maxRecDepth 20000 in
theorem gX2_start_X2_take : GoodIn wsX2_start (wsV RX2 65 RX2 yX2_take wsX2_take) := goodIn_app (goodIn_of _ (by decide +kernel)) ggX2_start_X2_take
theorem dX2_start_0 : decode cX2_start 0 = .ok (.aload_n 0, 1) := by decide +kernel
theorem dX2_start_1 : decode cX2_start 1 = .ok (.getfield 28, 3) := by decide +kernel
theorem dX2_start_4 : decode cX2_start 4 = .ok (.ifCond .eq 24, 3) := by decide +kernel
theorem dX2_start_7 : decode cX2_start 7 = .ok (.iload_n 1, 1) := by decide +kernel
theorem dX2_start_8 : decode cX2_start 8 = .ok (.iconst 1, 1) := by decide +kernel
theorem dX2_start_9 : decode cX2_start 9 = .ok (.if_icmp .lt 19, 3) := by decide +kernel
theorem dX2_start_12 : decode cX2_start 12 = .ok (.iload_n 1, 1) := by decide +kernel
theorem dX2_start_13 : decode cX2_start 13 = .ok (.bipush 32, 2) := by decide +kernel
theorem dX2_start_15 : decode cX2_start 15 = .ok (.if_icmp .gt 13, 3) := by decide +kernel
theorem dX2_start_18 : decode cX2_start 18 = .ok (.iload_n 2, 1) := by decide +kernel
theorem dX2_start_19 : decode cX2_start 19 = .ok (.ifCond .lt 9, 3) := by decide +kernel
theorem dX2_start_22 : decode cX2_start 22 = .ok (.iload_n 2, 1) := by decide +kernel
theorem dX2_start_23 : decode cX2_start 23 = .ok (.bipush 32, 2) := by decide +kernel
theorem dX2_start_25 : decode cX2_start 25 = .ok (.if_icmp .le 5, 3) := by decide +kernel
theorem dX2_start_28 : decode cX2_start 28 = .ok (.iconst 0, 1) := by decide +kernel
theorem dX2_start_29 : decode cX2_start 29 = .ok (.ireturn, 1) := by decide +kernel
theorem dX2_start_30 : decode cX2_start 30 = .ok (.iconst 0, 1) := by decide +kernel
theorem dX2_start_31 : decode cX2_start 31 = .ok (.istore_n 3, 1) := by decide +kernel
theorem dX2_start_32 : decode cX2_start 32 = .ok (.iload_n 3, 1) := by decide +kernel
theorem dX2_start_33 : decode cX2_start 33 = .ok (.bipush 8, 2) := by decide +kernel
theorem dX2_start_35 : decode cX2_start 35 = .ok (.if_icmp .ge 19, 3) := by decide +kernel
theorem dX2_start_38 : decode cX2_start 38 = .ok (.aload_n 0, 1) := by decide +kernel
theorem dX2_start_39 : decode cX2_start 39 = .ok (.getfield 13, 3) := by decide +kernel
theorem dX2_start_42 : decode cX2_start 42 = .ok (.iload_n 3, 1) := by decide +kernel
theorem dX2_start_43 : decode cX2_start 43 = .ok (.iload_n 3, 1) := by decide +kernel
theorem dX2_start_44 : decode cX2_start 44 = .ok (.invokestatic 46, 3) := by decide +kernel
theorem dX2_start_47 : decode cX2_start 47 = .ok (.iastore, 1) := by decide +kernel
theorem dX2_start_48 : decode cX2_start 48 = .ok (.iinc 3 1, 3) := by decide +kernel
theorem dX2_start_51 : decode cX2_start 51 = .ok (.goto (-19), 3) := by decide +kernel
theorem dX2_start_54 : decode cX2_start 54 = .ok (.aload_n 0, 1) := by decide +kernel
theorem dX2_start_55 : decode cX2_start 55 = .ok (.getfield 13, 3) := by decide +kernel
theorem dX2_start_58 : decode cX2_start 58 = .ok (.iconst 0, 1) := by decide +kernel
theorem dX2_start_59 : decode cX2_start 59 = .ok (.aload_n 0, 1) := by decide +kernel
theorem dX2_start_60 : decode cX2_start 60 = .ok (.getfield 13, 3) := by decide +kernel
theorem dX2_start_63 : decode cX2_start 63 = .ok (.iconst 0, 1) := by decide +kernel
theorem dX2_start_64 : decode cX2_start 64 = .ok (.iaload, 1) := by decide +kernel
theorem dX2_start_65 : decode cX2_start 65 = .ok (.ldc 50, 2) := by decide +kernel
theorem dX2_start_67 : decode cX2_start 67 = .ok (.ixor, 1) := by decide +kernel
theorem dX2_start_68 : decode cX2_start 68 = .ok (.iload_n 2, 1) := by decide +kernel
theorem dX2_start_69 : decode cX2_start 69 = .ok (.sipush 256, 3) := by decide +kernel
theorem dX2_start_72 : decode cX2_start 72 = .ok (.imul, 1) := by decide +kernel
theorem dX2_start_73 : decode cX2_start 73 = .ok (.ixor, 1) := by decide +kernel
theorem dX2_start_74 : decode cX2_start 74 = .ok (.iload_n 1, 1) := by decide +kernel
theorem dX2_start_75 : decode cX2_start 75 = .ok (.ixor, 1) := by decide +kernel
theorem dX2_start_76 : decode cX2_start 76 = .ok (.iastore, 1) := by decide +kernel
theorem dX2_start_77 : decode cX2_start 77 = .ok (.aload_n 0, 1) := by decide +kernel
theorem dX2_start_78 : decode cX2_start 78 = .ok (.iload_n 1, 1) := by decide +kernel
theorem dX2_start_79 : decode cX2_start 79 = .ok (.putfield 51, 3) := by decide +kernel
theorem dX2_start_82 : decode cX2_start 82 = .ok (.aload_n 0, 1) := by decide +kernel
theorem dX2_start_83 : decode cX2_start 83 = .ok (.iconst 0, 1) := by decide +kernel
theorem dX2_start_84 : decode cX2_start 84 = .ok (.putfield 55, 3) := by decide +kernel
theorem dX2_start_87 : decode cX2_start 87 = .ok (.aload_n 0, 1) := by decide +kernel
theorem dX2_start_88 : decode cX2_start 88 = .ok (.lconst 0, 1) := by decide +kernel
theorem dX2_start_89 : decode cX2_start 89 = .ok (.putfield 58, 3) := by decide +kernel
theorem dX2_start_92 : decode cX2_start 92 = .ok (.aload_n 0, 1) := by decide +kernel
theorem dX2_start_93 : decode cX2_start 93 = .ok (.iconst 0, 1) := by decide +kernel
theorem dX2_start_94 : decode cX2_start 94 = .ok (.putfield 62, 3) := by decide +kernel
theorem dX2_start_97 : decode cX2_start 97 = .ok (.aload_n 0, 1) := by decide +kernel
theorem dX2_start_98 : decode cX2_start 98 = .ok (.iconst 1, 1) := by decide +kernel
theorem dX2_start_99 : decode cX2_start 99 = .ok (.putfield 32, 3) := by decide +kernel
theorem dX2_start_102 : decode cX2_start 102 = .ok (.aload_n 0, 1) := by decide +kernel
theorem dX2_start_103 : decode cX2_start 103 = .ok (.iconst 0, 1) := by decide +kernel
theorem dX2_start_104 : decode cX2_start 104 = .ok (.putfield 35, 3) := by decide +kernel
theorem dX2_start_107 : decode cX2_start 107 = .ok (.iconst 0, 1) := by decide +kernel
theorem dX2_start_108 : decode cX2_start 108 = .ok (.istore_n 3, 1) := by decide +kernel
theorem dX2_start_109 : decode cX2_start 109 = .ok (.iload_n 3, 1) := by decide +kernel
theorem dX2_start_110 : decode cX2_start 110 = .ok (.bipush 64, 2) := by decide +kernel
theorem dX2_start_112 : decode cX2_start 112 = .ok (.if_icmp .ge 32, 3) := by decide +kernel
theorem dX2_start_115 : decode cX2_start 115 = .ok (.iload_n 2, 1) := by decide +kernel
theorem dX2_start_116 : decode cX2_start 116 = .ok (.ifCond .le 28, 3) := by decide +kernel
theorem dX2_start_119 : decode cX2_start 119 = .ok (.aload_n 0, 1) := by decide +kernel
theorem dX2_start_120 : decode cX2_start 120 = .ok (.iload_n 3, 1) := by decide +kernel
theorem dX2_start_121 : decode cX2_start 121 = .ok (.iload_n 2, 1) := by decide +kernel
theorem dX2_start_122 : decode cX2_start 122 = .ok (.if_icmp .ge 12, 3) := by decide +kernel
theorem dX2_start_125 : decode cX2_start 125 = .ok (.aload_n 0, 1) := by decide +kernel
theorem dX2_start_126 : decode cX2_start 126 = .ok (.getfield 7, 3) := by decide +kernel
theorem dX2_start_129 : decode cX2_start 129 = .ok (.iload_n 3, 1) := by decide +kernel
theorem dX2_start_130 : decode cX2_start 130 = .ok (.iaload, 1) := by decide +kernel
theorem dX2_start_131 : decode cX2_start 131 = .ok (.goto 4, 3) := by decide +kernel
theorem dX2_start_134 : decode cX2_start 134 = .ok (.iconst 0, 1) := by decide +kernel
theorem dX2_start_135 : decode cX2_start 135 = .ok (.invokevirtual 65, 3) := by decide +kernel
theorem dX2_start_138 : decode cX2_start 138 = .ok (.iinc 3 1, 3) := by decide +kernel
theorem dX2_start_141 : decode cX2_start 141 = .ok (.goto (-32), 3) := by decide +kernel
theorem dX2_start_144 : decode cX2_start 144 = .ok (.iconst 1, 1) := by decide +kernel
theorem dX2_start_145 : decode cX2_start 145 = .ok (.ireturn, 1) := by decide +kernel
set_option maxRecDepth 20000 in
theorem ggX2_take_X2_mix : GoodIn wsX2_take wsX2_mix := goodIn_r _ [9, 10, 4, 11, 12, 13, 14, 15, 8, 16, 17, 18, 19, 20, 21, 22, 23, 24, 25, 26, 27, 28, 29, 30, 31, 32, 33, 34, 35, 36, 37, 38, 39, 40, 41, 42, 43, 44] rfl (by decide +kernel)
set_option maxRecDepth 20000 in
theorem gX2_take_X2_mix : GoodIn wsX2_take (wsV RX2 71 RX2 yX2_mix wsX2_mix) := goodIn_app (goodIn_of _ (by decide +kernel)) ggX2_take_X2_mix
theorem dX2_take_0 : decode cX2_take 0 = .ok (.aload_n 0, 1) := by decide +kernel
theorem dX2_take_1 : decode cX2_take 1 = .ok (.getfield 55, 3) := by decide +kernel
theorem dX2_take_4 : decode cX2_take 4 = .ok (.bipush 64, 2) := by decide +kernel
theorem dX2_take_6 : decode cX2_take 6 = .ok (.if_icmp .ne 29, 3) := by decide +kernel
theorem dX2_take_9 : decode cX2_take 9 = .ok (.aload_n 0, 1) := by decide +kernel
theorem dX2_take_10 : decode cX2_take 10 = .ok (.aload_n 0, 1) := by decide +kernel
theorem dX2_take_11 : decode cX2_take 11 = .ok (.getfield 58, 3) := by decide +kernel
theorem dX2_take_14 : decode cX2_take 14 = .ok (.ldc2_w 69, 3) := by decide +kernel
theorem dX2_take_17 : decode cX2_take 17 = .ok (.ladd, 1) := by decide +kernel
theorem dX2_take_18 : decode cX2_take 18 = .ok (.putfield 58, 3) := by decide +kernel
theorem dX2_take_21 : decode cX2_take 21 = .ok (.aload_n 0, 1) := by decide +kernel
theorem dX2_take_22 : decode cX2_take 22 = .ok (.aload_n 0, 1) := by decide +kernel
theorem dX2_take_23 : decode cX2_take 23 = .ok (.getfield 58, 3) := by decide +kernel
theorem dX2_take_26 : decode cX2_take 26 = .ok (.iconst 0, 1) := by decide +kernel
theorem dX2_take_27 : decode cX2_take 27 = .ok (.invokevirtual 71, 3) := by decide +kernel
theorem dX2_take_30 : decode cX2_take 30 = .ok (.aload_n 0, 1) := by decide +kernel
theorem dX2_take_31 : decode cX2_take 31 = .ok (.iconst 0, 1) := by decide +kernel
theorem dX2_take_32 : decode cX2_take 32 = .ok (.putfield 55, 3) := by decide +kernel
theorem dX2_take_35 : decode cX2_take 35 = .ok (.aload_n 0, 1) := by decide +kernel
theorem dX2_take_36 : decode cX2_take 36 = .ok (.getfield 22, 3) := by decide +kernel
theorem dX2_take_39 : decode cX2_take 39 = .ok (.aload_n 0, 1) := by decide +kernel
theorem dX2_take_40 : decode cX2_take 40 = .ok (.getfield 55, 3) := by decide +kernel
theorem dX2_take_43 : decode cX2_take 43 = .ok (.iload_n 1, 1) := by decide +kernel
theorem dX2_take_44 : decode cX2_take 44 = .ok (.iastore, 1) := by decide +kernel
theorem dX2_take_45 : decode cX2_take 45 = .ok (.aload_n 0, 1) := by decide +kernel
theorem dX2_take_46 : decode cX2_take 46 = .ok (.dup, 1) := by decide +kernel
theorem dX2_take_47 : decode cX2_take 47 = .ok (.getfield 55, 3) := by decide +kernel
theorem dX2_take_50 : decode cX2_take 50 = .ok (.iconst 1, 1) := by decide +kernel
theorem dX2_take_51 : decode cX2_take 51 = .ok (.iadd, 1) := by decide +kernel
theorem dX2_take_52 : decode cX2_take 52 = .ok (.putfield 55, 3) := by decide +kernel
theorem dX2_take_55 : decode cX2_take 55 = .ok (.return_, 1) := by decide +kernel
theorem dX2_down_0 : decode cX2_down 0 = .ok (.iload_n 0, 1) := by decide +kernel
theorem dX2_down_1 : decode cX2_down 1 = .ok (.iload_n 1, 1) := by decide +kernel
theorem dX2_down_2 : decode cX2_down 2 = .ok (.iushr, 1) := by decide +kernel
theorem dX2_down_3 : decode cX2_down 3 = .ok (.iload_n 0, 1) := by decide +kernel
theorem dX2_down_4 : decode cX2_down 4 = .ok (.bipush 32, 2) := by decide +kernel
theorem dX2_down_6 : decode cX2_down 6 = .ok (.iload_n 1, 1) := by decide +kernel
theorem dX2_down_7 : decode cX2_down 7 = .ok (.isub, 1) := by decide +kernel
theorem dX2_down_8 : decode cX2_down 8 = .ok (.ishl, 1) := by decide +kernel
theorem dX2_down_9 : decode cX2_down 9 = .ok (.ior, 1) := by decide +kernel
theorem dX2_down_10 : decode cX2_down 10 = .ok (.ireturn, 1) := by decide +kernel
set_option maxRecDepth 20000 in
theorem ggX2_g_X2_down : GoodIn wsX2_g wsX2_down := goodIn_r _ [5] rfl (by decide +kernel)
set_option maxRecDepth 20000 in
theorem gX2_g_X2_down : GoodIn wsX2_g (va_wsS RX2 75 yX2_down wsX2_down) := goodIn_app (goodIn_of _ (by decide +kernel)) ggX2_g_X2_down
theorem dX2_g_0 : decode cX2_g 0 = .ok (.aload_n 0, 1) := by decide +kernel
theorem dX2_g_1 : decode cX2_g 1 = .ok (.getfield 16, 3) := by decide +kernel
theorem dX2_g_4 : decode cX2_g 4 = .ok (.iload_n 1, 1) := by decide +kernel
theorem dX2_g_5 : decode cX2_g 5 = .ok (.aload_n 0, 1) := by decide +kernel
theorem dX2_g_6 : decode cX2_g 6 = .ok (.getfield 16, 3) := by decide +kernel
theorem dX2_g_9 : decode cX2_g 9 = .ok (.iload_n 1, 1) := by decide +kernel
theorem dX2_g_10 : decode cX2_g 10 = .ok (.iaload, 1) := by decide +kernel
theorem dX2_g_11 : decode cX2_g 11 = .ok (.aload_n 0, 1) := by decide +kernel
theorem dX2_g_12 : decode cX2_g 12 = .ok (.getfield 16, 3) := by decide +kernel
theorem dX2_g_15 : decode cX2_g 15 = .ok (.iload_n 2, 1) := by decide +kernel
theorem dX2_g_16 : decode cX2_g 16 = .ok (.iaload, 1) := by decide +kernel
theorem dX2_g_17 : decode cX2_g 17 = .ok (.iadd, 1) := by decide +kernel
theorem dX2_g_18 : decode cX2_g 18 = .ok (.iload 5, 2) := by decide +kernel
theorem dX2_g_20 : decode cX2_g 20 = .ok (.iadd, 1) := by decide +kernel
theorem dX2_g_21 : decode cX2_g 21 = .ok (.iastore, 1) := by decide +kernel
theorem dX2_g_22 : decode cX2_g 22 = .ok (.aload_n 0, 1) := by decide +kernel
theorem dX2_g_23 : decode cX2_g 23 = .ok (.getfield 16, 3) := by decide +kernel
theorem dX2_g_26 : decode cX2_g 26 = .ok (.iload 4, 2) := by decide +kernel
theorem dX2_g_28 : decode cX2_g 28 = .ok (.aload_n 0, 1) := by decide +kernel
theorem dX2_g_29 : decode cX2_g 29 = .ok (.getfield 16, 3) := by decide +kernel
theorem dX2_g_32 : decode cX2_g 32 = .ok (.iload 4, 2) := by decide +kernel
theorem dX2_g_34 : decode cX2_g 34 = .ok (.iaload, 1) := by decide +kernel
theorem dX2_g_35 : decode cX2_g 35 = .ok (.aload_n 0, 1) := by decide +kernel
theorem dX2_g_36 : decode cX2_g 36 = .ok (.getfield 16, 3) := by decide +kernel
theorem dX2_g_39 : decode cX2_g 39 = .ok (.iload_n 1, 1) := by decide +kernel
theorem dX2_g_40 : decode cX2_g 40 = .ok (.iaload, 1) := by decide +kernel
theorem dX2_g_41 : decode cX2_g 41 = .ok (.ixor, 1) := by decide +kernel
theorem dX2_g_42 : decode cX2_g 42 = .ok (.bipush 16, 2) := by decide +kernel
theorem dX2_g_44 : decode cX2_g 44 = .ok (.invokestatic 75, 3) := by decide +kernel
theorem dX2_g_47 : decode cX2_g 47 = .ok (.iastore, 1) := by decide +kernel
theorem dX2_g_48 : decode cX2_g 48 = .ok (.aload_n 0, 1) := by decide +kernel
theorem dX2_g_49 : decode cX2_g 49 = .ok (.getfield 16, 3) := by decide +kernel
theorem dX2_g_52 : decode cX2_g 52 = .ok (.iload_n 3, 1) := by decide +kernel
theorem dX2_g_53 : decode cX2_g 53 = .ok (.aload_n 0, 1) := by decide +kernel
theorem dX2_g_54 : decode cX2_g 54 = .ok (.getfield 16, 3) := by decide +kernel
theorem dX2_g_57 : decode cX2_g 57 = .ok (.iload_n 3, 1) := by decide +kernel
theorem dX2_g_58 : decode cX2_g 58 = .ok (.iaload, 1) := by decide +kernel
theorem dX2_g_59 : decode cX2_g 59 = .ok (.aload_n 0, 1) := by decide +kernel
theorem dX2_g_60 : decode cX2_g 60 = .ok (.getfield 16, 3) := by decide +kernel
theorem dX2_g_63 : decode cX2_g 63 = .ok (.iload 4, 2) := by decide +kernel
theorem dX2_g_65 : decode cX2_g 65 = .ok (.iaload, 1) := by decide +kernel
theorem dX2_g_66 : decode cX2_g 66 = .ok (.iadd, 1) := by decide +kernel
theorem dX2_g_67 : decode cX2_g 67 = .ok (.iastore, 1) := by decide +kernel
theorem dX2_g_68 : decode cX2_g 68 = .ok (.aload_n 0, 1) := by decide +kernel
theorem dX2_g_69 : decode cX2_g 69 = .ok (.getfield 16, 3) := by decide +kernel
theorem dX2_g_72 : decode cX2_g 72 = .ok (.iload_n 2, 1) := by decide +kernel
theorem dX2_g_73 : decode cX2_g 73 = .ok (.aload_n 0, 1) := by decide +kernel
theorem dX2_g_74 : decode cX2_g 74 = .ok (.getfield 16, 3) := by decide +kernel
theorem dX2_g_77 : decode cX2_g 77 = .ok (.iload_n 2, 1) := by decide +kernel
theorem dX2_g_78 : decode cX2_g 78 = .ok (.iaload, 1) := by decide +kernel
theorem dX2_g_79 : decode cX2_g 79 = .ok (.aload_n 0, 1) := by decide +kernel
theorem dX2_g_80 : decode cX2_g 80 = .ok (.getfield 16, 3) := by decide +kernel
theorem dX2_g_83 : decode cX2_g 83 = .ok (.iload_n 3, 1) := by decide +kernel
theorem dX2_g_84 : decode cX2_g 84 = .ok (.iaload, 1) := by decide +kernel
theorem dX2_g_85 : decode cX2_g 85 = .ok (.ixor, 1) := by decide +kernel
theorem dX2_g_86 : decode cX2_g 86 = .ok (.bipush 12, 2) := by decide +kernel
theorem dX2_g_88 : decode cX2_g 88 = .ok (.invokestatic 75, 3) := by decide +kernel
theorem dX2_g_91 : decode cX2_g 91 = .ok (.iastore, 1) := by decide +kernel
theorem dX2_g_92 : decode cX2_g 92 = .ok (.aload_n 0, 1) := by decide +kernel
theorem dX2_g_93 : decode cX2_g 93 = .ok (.getfield 16, 3) := by decide +kernel
theorem dX2_g_96 : decode cX2_g 96 = .ok (.iload_n 1, 1) := by decide +kernel
theorem dX2_g_97 : decode cX2_g 97 = .ok (.aload_n 0, 1) := by decide +kernel
theorem dX2_g_98 : decode cX2_g 98 = .ok (.getfield 16, 3) := by decide +kernel
theorem dX2_g_101 : decode cX2_g 101 = .ok (.iload_n 1, 1) := by decide +kernel
theorem dX2_g_102 : decode cX2_g 102 = .ok (.iaload, 1) := by decide +kernel
theorem dX2_g_103 : decode cX2_g 103 = .ok (.aload_n 0, 1) := by decide +kernel
theorem dX2_g_104 : decode cX2_g 104 = .ok (.getfield 16, 3) := by decide +kernel
theorem dX2_g_107 : decode cX2_g 107 = .ok (.iload_n 2, 1) := by decide +kernel
theorem dX2_g_108 : decode cX2_g 108 = .ok (.iaload, 1) := by decide +kernel
theorem dX2_g_109 : decode cX2_g 109 = .ok (.iadd, 1) := by decide +kernel
theorem dX2_g_110 : decode cX2_g 110 = .ok (.iload 6, 2) := by decide +kernel
theorem dX2_g_112 : decode cX2_g 112 = .ok (.iadd, 1) := by decide +kernel
theorem dX2_g_113 : decode cX2_g 113 = .ok (.iastore, 1) := by decide +kernel
theorem dX2_g_114 : decode cX2_g 114 = .ok (.aload_n 0, 1) := by decide +kernel
theorem dX2_g_115 : decode cX2_g 115 = .ok (.getfield 16, 3) := by decide +kernel
theorem dX2_g_118 : decode cX2_g 118 = .ok (.iload 4, 2) := by decide +kernel
theorem dX2_g_120 : decode cX2_g 120 = .ok (.aload_n 0, 1) := by decide +kernel
theorem dX2_g_121 : decode cX2_g 121 = .ok (.getfield 16, 3) := by decide +kernel
theorem dX2_g_124 : decode cX2_g 124 = .ok (.iload 4, 2) := by decide +kernel
theorem dX2_g_126 : decode cX2_g 126 = .ok (.iaload, 1) := by decide +kernel
theorem dX2_g_127 : decode cX2_g 127 = .ok (.aload_n 0, 1) := by decide +kernel
theorem dX2_g_128 : decode cX2_g 128 = .ok (.getfield 16, 3) := by decide +kernel
theorem dX2_g_131 : decode cX2_g 131 = .ok (.iload_n 1, 1) := by decide +kernel
theorem dX2_g_132 : decode cX2_g 132 = .ok (.iaload, 1) := by decide +kernel
theorem dX2_g_133 : decode cX2_g 133 = .ok (.ixor, 1) := by decide +kernel
theorem dX2_g_134 : decode cX2_g 134 = .ok (.bipush 8, 2) := by decide +kernel
theorem dX2_g_136 : decode cX2_g 136 = .ok (.invokestatic 75, 3) := by decide +kernel
theorem dX2_g_139 : decode cX2_g 139 = .ok (.iastore, 1) := by decide +kernel
theorem dX2_g_140 : decode cX2_g 140 = .ok (.aload_n 0, 1) := by decide +kernel
theorem dX2_g_141 : decode cX2_g 141 = .ok (.getfield 16, 3) := by decide +kernel
theorem dX2_g_144 : decode cX2_g 144 = .ok (.iload_n 3, 1) := by decide +kernel
theorem dX2_g_145 : decode cX2_g 145 = .ok (.aload_n 0, 1) := by decide +kernel
theorem dX2_g_146 : decode cX2_g 146 = .ok (.getfield 16, 3) := by decide +kernel
theorem dX2_g_149 : decode cX2_g 149 = .ok (.iload_n 3, 1) := by decide +kernel
theorem dX2_g_150 : decode cX2_g 150 = .ok (.iaload, 1) := by decide +kernel
theorem dX2_g_151 : decode cX2_g 151 = .ok (.aload_n 0, 1) := by decide +kernel
theorem dX2_g_152 : decode cX2_g 152 = .ok (.getfield 16, 3) := by decide +kernel
theorem dX2_g_155 : decode cX2_g 155 = .ok (.iload 4, 2) := by decide +kernel
theorem dX2_g_157 : decode cX2_g 157 = .ok (.iaload, 1) := by decide +kernel
theorem dX2_g_158 : decode cX2_g 158 = .ok (.iadd, 1) := by decide +kernel
theorem dX2_g_159 : decode cX2_g 159 = .ok (.iastore, 1) := by decide +kernel
theorem dX2_g_160 : decode cX2_g 160 = .ok (.aload_n 0, 1) := by decide +kernel
theorem dX2_g_161 : decode cX2_g 161 = .ok (.getfield 16, 3) := by decide +kernel
theorem dX2_g_164 : decode cX2_g 164 = .ok (.iload_n 2, 1) := by decide +kernel
theorem dX2_g_165 : decode cX2_g 165 = .ok (.aload_n 0, 1) := by decide +kernel
theorem dX2_g_166 : decode cX2_g 166 = .ok (.getfield 16, 3) := by decide +kernel
theorem dX2_g_169 : decode cX2_g 169 = .ok (.iload_n 2, 1) := by decide +kernel
theorem dX2_g_170 : decode cX2_g 170 = .ok (.iaload, 1) := by decide +kernel
theorem dX2_g_171 : decode cX2_g 171 = .ok (.aload_n 0, 1) := by decide +kernel
theorem dX2_g_172 : decode cX2_g 172 = .ok (.getfield 16, 3) := by decide +kernel
theorem dX2_g_175 : decode cX2_g 175 = .ok (.iload_n 3, 1) := by decide +kernel
theorem dX2_g_176 : decode cX2_g 176 = .ok (.iaload, 1) := by decide +kernel
theorem dX2_g_177 : decode cX2_g 177 = .ok (.ixor, 1) := by decide +kernel
theorem dX2_g_178 : decode cX2_g 178 = .ok (.bipush 7, 2) := by decide +kernel
theorem dX2_g_180 : decode cX2_g 180 = .ok (.invokestatic 75, 3) := by decide +kernel
theorem dX2_g_183 : decode cX2_g 183 = .ok (.iastore, 1) := by decide +kernel
theorem dX2_g_184 : decode cX2_g 184 = .ok (.return_, 1) := by decide +kernel
set_option maxRecDepth 20000 in
theorem ggX2_mix_X2_first : GoodIn wsX2_mix wsX2_first := goodIn_r _ [9, 10, 11, 12, 13, 14, 15, 16, 17] rfl (by decide +kernel)
set_option maxRecDepth 20000 in
theorem gX2_mix_X2_first : GoodIn wsX2_mix (va_wsS RX2 46 yX2_first wsX2_first) := goodIn_app (goodIn_of _ (by decide +kernel)) ggX2_mix_X2_first
set_option maxRecDepth 20000 in
theorem ggX2_mix_X2_g : GoodIn wsX2_mix wsX2_g := goodIn_r _ [21, 3, 22, 23, 8, 24, 25, 26, 27, 28, 29, 30, 31, 32, 33, 34, 35, 36, 37] rfl (by decide +kernel)
set_option maxRecDepth 20000 in
theorem gX2_mix_X2_g : GoodIn wsX2_mix (wsV RX2 79 RX2 yX2_g wsX2_g) := goodIn_app (goodIn_of _ (by decide +kernel)) ggX2_mix_X2_g
theorem dX2_mix_0 : decode cX2_mix 0 = .ok (.iconst 0, 1) := by decide +kernel
theorem dX2_mix_1 : decode cX2_mix 1 = .ok (.istore 4, 2) := by decide +kernel
theorem dX2_mix_3 : decode cX2_mix 3 = .ok (.iload 4, 2) := by decide +kernel
theorem dX2_mix_5 : decode cX2_mix 5 = .ok (.bipush 16, 2) := by decide +kernel
theorem dX2_mix_7 : decode cX2_mix 7 = .ok (.if_icmp .ge 102, 3) := by decide +kernel
theorem dX2_mix_10 : decode cX2_mix 10 = .ok (.aload_n 0, 1) := by decide +kernel
theorem dX2_mix_11 : decode cX2_mix 11 = .ok (.getfield 19, 3) := by decide +kernel
theorem dX2_mix_14 : decode cX2_mix 14 = .ok (.iload 4, 2) := by decide +kernel
theorem dX2_mix_16 : decode cX2_mix 16 = .ok (.aload_n 0, 1) := by decide +kernel
theorem dX2_mix_17 : decode cX2_mix 17 = .ok (.getfield 22, 3) := by decide +kernel
theorem dX2_mix_20 : decode cX2_mix 20 = .ok (.iconst 4, 1) := by decide +kernel
theorem dX2_mix_21 : decode cX2_mix 21 = .ok (.iload 4, 2) := by decide +kernel
theorem dX2_mix_23 : decode cX2_mix 23 = .ok (.imul, 1) := by decide +kernel
theorem dX2_mix_24 : decode cX2_mix 24 = .ok (.iaload, 1) := by decide +kernel
theorem dX2_mix_25 : decode cX2_mix 25 = .ok (.aload_n 0, 1) := by decide +kernel
theorem dX2_mix_26 : decode cX2_mix 26 = .ok (.getfield 22, 3) := by decide +kernel
theorem dX2_mix_29 : decode cX2_mix 29 = .ok (.iconst 4, 1) := by decide +kernel
theorem dX2_mix_30 : decode cX2_mix 30 = .ok (.iload 4, 2) := by decide +kernel
theorem dX2_mix_32 : decode cX2_mix 32 = .ok (.imul, 1) := by decide +kernel
theorem dX2_mix_33 : decode cX2_mix 33 = .ok (.iconst 1, 1) := by decide +kernel
theorem dX2_mix_34 : decode cX2_mix 34 = .ok (.iadd, 1) := by decide +kernel
theorem dX2_mix_35 : decode cX2_mix 35 = .ok (.iaload, 1) := by decide +kernel
theorem dX2_mix_36 : decode cX2_mix 36 = .ok (.bipush 8, 2) := by decide +kernel
theorem dX2_mix_38 : decode cX2_mix 38 = .ok (.ishl, 1) := by decide +kernel
theorem dX2_mix_39 : decode cX2_mix 39 = .ok (.ior, 1) := by decide +kernel
theorem dX2_mix_40 : decode cX2_mix 40 = .ok (.aload_n 0, 1) := by decide +kernel
theorem dX2_mix_41 : decode cX2_mix 41 = .ok (.getfield 22, 3) := by decide +kernel
theorem dX2_mix_44 : decode cX2_mix 44 = .ok (.iconst 4, 1) := by decide +kernel
theorem dX2_mix_45 : decode cX2_mix 45 = .ok (.iload 4, 2) := by decide +kernel
theorem dX2_mix_47 : decode cX2_mix 47 = .ok (.imul, 1) := by decide +kernel
theorem dX2_mix_48 : decode cX2_mix 48 = .ok (.iconst 2, 1) := by decide +kernel
theorem dX2_mix_49 : decode cX2_mix 49 = .ok (.iadd, 1) := by decide +kernel
theorem dX2_mix_50 : decode cX2_mix 50 = .ok (.iaload, 1) := by decide +kernel
theorem dX2_mix_51 : decode cX2_mix 51 = .ok (.bipush 16, 2) := by decide +kernel
theorem dX2_mix_53 : decode cX2_mix 53 = .ok (.ishl, 1) := by decide +kernel
theorem dX2_mix_54 : decode cX2_mix 54 = .ok (.ior, 1) := by decide +kernel
theorem dX2_mix_55 : decode cX2_mix 55 = .ok (.aload_n 0, 1) := by decide +kernel
theorem dX2_mix_56 : decode cX2_mix 56 = .ok (.getfield 22, 3) := by decide +kernel
theorem dX2_mix_59 : decode cX2_mix 59 = .ok (.iconst 4, 1) := by decide +kernel
theorem dX2_mix_60 : decode cX2_mix 60 = .ok (.iload 4, 2) := by decide +kernel
theorem dX2_mix_62 : decode cX2_mix 62 = .ok (.imul, 1) := by decide +kernel
theorem dX2_mix_63 : decode cX2_mix 63 = .ok (.iconst 3, 1) := by decide +kernel
theorem dX2_mix_64 : decode cX2_mix 64 = .ok (.iadd, 1) := by decide +kernel
theorem dX2_mix_65 : decode cX2_mix 65 = .ok (.iaload, 1) := by decide +kernel
theorem dX2_mix_66 : decode cX2_mix 66 = .ok (.bipush 24, 2) := by decide +kernel
theorem dX2_mix_68 : decode cX2_mix 68 = .ok (.ishl, 1) := by decide +kernel
theorem dX2_mix_69 : decode cX2_mix 69 = .ok (.ior, 1) := by decide +kernel
theorem dX2_mix_70 : decode cX2_mix 70 = .ok (.iastore, 1) := by decide +kernel
theorem dX2_mix_71 : decode cX2_mix 71 = .ok (.aload_n 0, 1) := by decide +kernel
theorem dX2_mix_72 : decode cX2_mix 72 = .ok (.getfield 16, 3) := by decide +kernel
theorem dX2_mix_75 : decode cX2_mix 75 = .ok (.iload 4, 2) := by decide +kernel
theorem dX2_mix_77 : decode cX2_mix 77 = .ok (.iload 4, 2) := by decide +kernel
theorem dX2_mix_79 : decode cX2_mix 79 = .ok (.bipush 8, 2) := by decide +kernel
theorem dX2_mix_81 : decode cX2_mix 81 = .ok (.if_icmp .ge 13, 3) := by decide +kernel
theorem dX2_mix_84 : decode cX2_mix 84 = .ok (.aload_n 0, 1) := by decide +kernel
theorem dX2_mix_85 : decode cX2_mix 85 = .ok (.getfield 13, 3) := by decide +kernel
theorem dX2_mix_88 : decode cX2_mix 88 = .ok (.iload 4, 2) := by decide +kernel
theorem dX2_mix_90 : decode cX2_mix 90 = .ok (.iaload, 1) := by decide +kernel
theorem dX2_mix_91 : decode cX2_mix 91 = .ok (.goto 11, 3) := by decide +kernel
theorem dX2_mix_94 : decode cX2_mix 94 = .ok (.iload 4, 2) := by decide +kernel
theorem dX2_mix_96 : decode cX2_mix 96 = .ok (.bipush 8, 2) := by decide +kernel
theorem dX2_mix_98 : decode cX2_mix 98 = .ok (.isub, 1) := by decide +kernel
theorem dX2_mix_99 : decode cX2_mix 99 = .ok (.invokestatic 46, 3) := by decide +kernel
theorem dX2_mix_102 : decode cX2_mix 102 = .ok (.iastore, 1) := by decide +kernel
theorem dX2_mix_103 : decode cX2_mix 103 = .ok (.iinc 4 1, 3) := by decide +kernel
theorem dX2_mix_106 : decode cX2_mix 106 = .ok (.goto (-103), 3) := by decide +kernel
theorem dX2_mix_109 : decode cX2_mix 109 = .ok (.aload_n 0, 1) := by decide +kernel
theorem dX2_mix_110 : decode cX2_mix 110 = .ok (.getfield 16, 3) := by decide +kernel
theorem dX2_mix_113 : decode cX2_mix 113 = .ok (.bipush 12, 2) := by decide +kernel
theorem dX2_mix_115 : decode cX2_mix 115 = .ok (.aload_n 0, 1) := by decide +kernel
theorem dX2_mix_116 : decode cX2_mix 116 = .ok (.getfield 16, 3) := by decide +kernel
theorem dX2_mix_119 : decode cX2_mix 119 = .ok (.bipush 12, 2) := by decide +kernel
theorem dX2_mix_121 : decode cX2_mix 121 = .ok (.iaload, 1) := by decide +kernel
theorem dX2_mix_122 : decode cX2_mix 122 = .ok (.lload_n 1, 1) := by decide +kernel
theorem dX2_mix_123 : decode cX2_mix 123 = .ok (.l2i, 1) := by decide +kernel
theorem dX2_mix_124 : decode cX2_mix 124 = .ok (.ixor, 1) := by decide +kernel
theorem dX2_mix_125 : decode cX2_mix 125 = .ok (.iastore, 1) := by decide +kernel
theorem dX2_mix_126 : decode cX2_mix 126 = .ok (.aload_n 0, 1) := by decide +kernel
theorem dX2_mix_127 : decode cX2_mix 127 = .ok (.getfield 16, 3) := by decide +kernel
theorem dX2_mix_130 : decode cX2_mix 130 = .ok (.bipush 13, 2) := by decide +kernel
theorem dX2_mix_132 : decode cX2_mix 132 = .ok (.aload_n 0, 1) := by decide +kernel
theorem dX2_mix_133 : decode cX2_mix 133 = .ok (.getfield 16, 3) := by decide +kernel
theorem dX2_mix_136 : decode cX2_mix 136 = .ok (.bipush 13, 2) := by decide +kernel
theorem dX2_mix_138 : decode cX2_mix 138 = .ok (.iaload, 1) := by decide +kernel
theorem dX2_mix_139 : decode cX2_mix 139 = .ok (.lload_n 1, 1) := by decide +kernel
theorem dX2_mix_140 : decode cX2_mix 140 = .ok (.bipush 32, 2) := by decide +kernel
theorem dX2_mix_142 : decode cX2_mix 142 = .ok (.lushr, 1) := by decide +kernel
theorem dX2_mix_143 : decode cX2_mix 143 = .ok (.l2i, 1) := by decide +kernel
theorem dX2_mix_144 : decode cX2_mix 144 = .ok (.ixor, 1) := by decide +kernel
theorem dX2_mix_145 : decode cX2_mix 145 = .ok (.iastore, 1) := by decide +kernel
theorem dX2_mix_146 : decode cX2_mix 146 = .ok (.aload_n 0, 1) := by decide +kernel
theorem dX2_mix_147 : decode cX2_mix 147 = .ok (.getfield 16, 3) := by decide +kernel
theorem dX2_mix_150 : decode cX2_mix 150 = .ok (.bipush 14, 2) := by decide +kernel
theorem dX2_mix_152 : decode cX2_mix 152 = .ok (.iload_n 3, 1) := by decide +kernel
theorem dX2_mix_153 : decode cX2_mix 153 = .ok (.ifCond .eq 15, 3) := by decide +kernel
theorem dX2_mix_156 : decode cX2_mix 156 = .ok (.aload_n 0, 1) := by decide +kernel
theorem dX2_mix_157 : decode cX2_mix 157 = .ok (.getfield 16, 3) := by decide +kernel
theorem dX2_mix_160 : decode cX2_mix 160 = .ok (.bipush 14, 2) := by decide +kernel
theorem dX2_mix_162 : decode cX2_mix 162 = .ok (.iaload, 1) := by decide +kernel
theorem dX2_mix_163 : decode cX2_mix 163 = .ok (.iconst (-1), 1) := by decide +kernel
theorem dX2_mix_164 : decode cX2_mix 164 = .ok (.ixor, 1) := by decide +kernel
theorem dX2_mix_165 : decode cX2_mix 165 = .ok (.goto 10, 3) := by decide +kernel
theorem dX2_mix_168 : decode cX2_mix 168 = .ok (.aload_n 0, 1) := by decide +kernel
theorem dX2_mix_169 : decode cX2_mix 169 = .ok (.getfield 16, 3) := by decide +kernel
theorem dX2_mix_172 : decode cX2_mix 172 = .ok (.bipush 14, 2) := by decide +kernel
theorem dX2_mix_174 : decode cX2_mix 174 = .ok (.iaload, 1) := by decide +kernel
theorem dX2_mix_175 : decode cX2_mix 175 = .ok (.iastore, 1) := by decide +kernel
theorem dX2_mix_176 : decode cX2_mix 176 = .ok (.iconst 0, 1) := by decide +kernel
theorem dX2_mix_177 : decode cX2_mix 177 = .ok (.istore 4, 2) := by decide +kernel
theorem dX2_mix_179 : decode cX2_mix 179 = .ok (.iload 4, 2) := by decide +kernel
theorem dX2_mix_181 : decode cX2_mix 181 = .ok (.sipush 160, 3) := by decide +kernel
theorem dX2_mix_184 : decode cX2_mix 184 = .ok (.if_icmp .ge 329, 3) := by decide +kernel
theorem dX2_mix_187 : decode cX2_mix 187 = .ok (.aload_n 0, 1) := by decide +kernel
theorem dX2_mix_188 : decode cX2_mix 188 = .ok (.iconst 0, 1) := by decide +kernel
theorem dX2_mix_189 : decode cX2_mix 189 = .ok (.iconst 4, 1) := by decide +kernel
theorem dX2_mix_190 : decode cX2_mix 190 = .ok (.bipush 8, 2) := by decide +kernel
theorem dX2_mix_192 : decode cX2_mix 192 = .ok (.bipush 12, 2) := by decide +kernel
theorem dX2_mix_194 : decode cX2_mix 194 = .ok (.aload_n 0, 1) := by decide +kernel
theorem dX2_mix_195 : decode cX2_mix 195 = .ok (.getfield 19, 3) := by decide +kernel
theorem dX2_mix_198 : decode cX2_mix 198 = .ok (.aload_n 0, 1) := by decide +kernel
theorem dX2_mix_199 : decode cX2_mix 199 = .ok (.getfield 25, 3) := by decide +kernel
theorem dX2_mix_202 : decode cX2_mix 202 = .ok (.iload 4, 2) := by decide +kernel
theorem dX2_mix_204 : decode cX2_mix 204 = .ok (.iaload, 1) := by decide +kernel
theorem dX2_mix_205 : decode cX2_mix 205 = .ok (.iaload, 1) := by decide +kernel
theorem dX2_mix_206 : decode cX2_mix 206 = .ok (.aload_n 0, 1) := by decide +kernel
theorem dX2_mix_207 : decode cX2_mix 207 = .ok (.getfield 19, 3) := by decide +kernel
theorem dX2_mix_210 : decode cX2_mix 210 = .ok (.aload_n 0, 1) := by decide +kernel
theorem dX2_mix_211 : decode cX2_mix 211 = .ok (.getfield 25, 3) := by decide +kernel
theorem dX2_mix_214 : decode cX2_mix 214 = .ok (.iload 4, 2) := by decide +kernel
theorem dX2_mix_216 : decode cX2_mix 216 = .ok (.iconst 1, 1) := by decide +kernel
theorem dX2_mix_217 : decode cX2_mix 217 = .ok (.iadd, 1) := by decide +kernel
theorem dX2_mix_218 : decode cX2_mix 218 = .ok (.iaload, 1) := by decide +kernel
theorem dX2_mix_219 : decode cX2_mix 219 = .ok (.iaload, 1) := by decide +kernel
theorem dX2_mix_220 : decode cX2_mix 220 = .ok (.invokevirtual 79, 3) := by decide +kernel
theorem dX2_mix_223 : decode cX2_mix 223 = .ok (.aload_n 0, 1) := by decide +kernel
theorem dX2_mix_224 : decode cX2_mix 224 = .ok (.iconst 1, 1) := by decide +kernel
theorem dX2_mix_225 : decode cX2_mix 225 = .ok (.iconst 5, 1) := by decide +kernel
theorem dX2_mix_226 : decode cX2_mix 226 = .ok (.bipush 9, 2) := by decide +kernel
theorem dX2_mix_228 : decode cX2_mix 228 = .ok (.bipush 13, 2) := by decide +kernel
theorem dX2_mix_230 : decode cX2_mix 230 = .ok (.aload_n 0, 1) := by decide +kernel
theorem dX2_mix_231 : decode cX2_mix 231 = .ok (.getfield 19, 3) := by decide +kernel
theorem dX2_mix_234 : decode cX2_mix 234 = .ok (.aload_n 0, 1) := by decide +kernel
theorem dX2_mix_235 : decode cX2_mix 235 = .ok (.getfield 25, 3) := by decide +kernel
theorem dX2_mix_238 : decode cX2_mix 238 = .ok (.iload 4, 2) := by decide +kernel
theorem dX2_mix_240 : decode cX2_mix 240 = .ok (.iconst 2, 1) := by decide +kernel
theorem dX2_mix_241 : decode cX2_mix 241 = .ok (.iadd, 1) := by decide +kernel
theorem dX2_mix_242 : decode cX2_mix 242 = .ok (.iaload, 1) := by decide +kernel
theorem dX2_mix_243 : decode cX2_mix 243 = .ok (.iaload, 1) := by decide +kernel
theorem dX2_mix_244 : decode cX2_mix 244 = .ok (.aload_n 0, 1) := by decide +kernel
theorem dX2_mix_245 : decode cX2_mix 245 = .ok (.getfield 19, 3) := by decide +kernel
theorem dX2_mix_248 : decode cX2_mix 248 = .ok (.aload_n 0, 1) := by decide +kernel
theorem dX2_mix_249 : decode cX2_mix 249 = .ok (.getfield 25, 3) := by decide +kernel
theorem dX2_mix_252 : decode cX2_mix 252 = .ok (.iload 4, 2) := by decide +kernel
theorem dX2_mix_254 : decode cX2_mix 254 = .ok (.iconst 3, 1) := by decide +kernel
theorem dX2_mix_255 : decode cX2_mix 255 = .ok (.iadd, 1) := by decide +kernel
theorem dX2_mix_256 : decode cX2_mix 256 = .ok (.iaload, 1) := by decide +kernel
theorem dX2_mix_257 : decode cX2_mix 257 = .ok (.iaload, 1) := by decide +kernel
theorem dX2_mix_258 : decode cX2_mix 258 = .ok (.invokevirtual 79, 3) := by decide +kernel
theorem dX2_mix_261 : decode cX2_mix 261 = .ok (.aload_n 0, 1) := by decide +kernel
theorem dX2_mix_262 : decode cX2_mix 262 = .ok (.iconst 2, 1) := by decide +kernel
theorem dX2_mix_263 : decode cX2_mix 263 = .ok (.bipush 6, 2) := by decide +kernel
theorem dX2_mix_265 : decode cX2_mix 265 = .ok (.bipush 10, 2) := by decide +kernel
theorem dX2_mix_267 : decode cX2_mix 267 = .ok (.bipush 14, 2) := by decide +kernel
theorem dX2_mix_269 : decode cX2_mix 269 = .ok (.aload_n 0, 1) := by decide +kernel
theorem dX2_mix_270 : decode cX2_mix 270 = .ok (.getfield 19, 3) := by decide +kernel
theorem dX2_mix_273 : decode cX2_mix 273 = .ok (.aload_n 0, 1) := by decide +kernel
theorem dX2_mix_274 : decode cX2_mix 274 = .ok (.getfield 25, 3) := by decide +kernel
theorem dX2_mix_277 : decode cX2_mix 277 = .ok (.iload 4, 2) := by decide +kernel
theorem dX2_mix_279 : decode cX2_mix 279 = .ok (.iconst 4, 1) := by decide +kernel
theorem dX2_mix_280 : decode cX2_mix 280 = .ok (.iadd, 1) := by decide +kernel
theorem dX2_mix_281 : decode cX2_mix 281 = .ok (.iaload, 1) := by decide +kernel
theorem dX2_mix_282 : decode cX2_mix 282 = .ok (.iaload, 1) := by decide +kernel
theorem dX2_mix_283 : decode cX2_mix 283 = .ok (.aload_n 0, 1) := by decide +kernel
theorem dX2_mix_284 : decode cX2_mix 284 = .ok (.getfield 19, 3) := by decide +kernel
theorem dX2_mix_287 : decode cX2_mix 287 = .ok (.aload_n 0, 1) := by decide +kernel
theorem dX2_mix_288 : decode cX2_mix 288 = .ok (.getfield 25, 3) := by decide +kernel
theorem dX2_mix_291 : decode cX2_mix 291 = .ok (.iload 4, 2) := by decide +kernel
theorem dX2_mix_293 : decode cX2_mix 293 = .ok (.iconst 5, 1) := by decide +kernel
theorem dX2_mix_294 : decode cX2_mix 294 = .ok (.iadd, 1) := by decide +kernel
theorem dX2_mix_295 : decode cX2_mix 295 = .ok (.iaload, 1) := by decide +kernel
theorem dX2_mix_296 : decode cX2_mix 296 = .ok (.iaload, 1) := by decide +kernel
theorem dX2_mix_297 : decode cX2_mix 297 = .ok (.invokevirtual 79, 3) := by decide +kernel
theorem dX2_mix_300 : decode cX2_mix 300 = .ok (.aload_n 0, 1) := by decide +kernel
theorem dX2_mix_301 : decode cX2_mix 301 = .ok (.iconst 3, 1) := by decide +kernel
theorem dX2_mix_302 : decode cX2_mix 302 = .ok (.bipush 7, 2) := by decide +kernel
theorem dX2_mix_304 : decode cX2_mix 304 = .ok (.bipush 11, 2) := by decide +kernel
theorem dX2_mix_306 : decode cX2_mix 306 = .ok (.bipush 15, 2) := by decide +kernel
theorem dX2_mix_308 : decode cX2_mix 308 = .ok (.aload_n 0, 1) := by decide +kernel
theorem dX2_mix_309 : decode cX2_mix 309 = .ok (.getfield 19, 3) := by decide +kernel
theorem dX2_mix_312 : decode cX2_mix 312 = .ok (.aload_n 0, 1) := by decide +kernel
theorem dX2_mix_313 : decode cX2_mix 313 = .ok (.getfield 25, 3) := by decide +kernel
theorem dX2_mix_316 : decode cX2_mix 316 = .ok (.iload 4, 2) := by decide +kernel
theorem dX2_mix_318 : decode cX2_mix 318 = .ok (.bipush 6, 2) := by decide +kernel
theorem dX2_mix_320 : decode cX2_mix 320 = .ok (.iadd, 1) := by decide +kernel
theorem dX2_mix_321 : decode cX2_mix 321 = .ok (.iaload, 1) := by decide +kernel
theorem dX2_mix_322 : decode cX2_mix 322 = .ok (.iaload, 1) := by decide +kernel
theorem dX2_mix_323 : decode cX2_mix 323 = .ok (.aload_n 0, 1) := by decide +kernel
theorem dX2_mix_324 : decode cX2_mix 324 = .ok (.getfield 19, 3) := by decide +kernel
theorem dX2_mix_327 : decode cX2_mix 327 = .ok (.aload_n 0, 1) := by decide +kernel
theorem dX2_mix_328 : decode cX2_mix 328 = .ok (.getfield 25, 3) := by decide +kernel
theorem dX2_mix_331 : decode cX2_mix 331 = .ok (.iload 4, 2) := by decide +kernel
theorem dX2_mix_333 : decode cX2_mix 333 = .ok (.bipush 7, 2) := by decide +kernel
theorem dX2_mix_335 : decode cX2_mix 335 = .ok (.iadd, 1) := by decide +kernel
theorem dX2_mix_336 : decode cX2_mix 336 = .ok (.iaload, 1) := by decide +kernel
theorem dX2_mix_337 : decode cX2_mix 337 = .ok (.iaload, 1) := by decide +kernel
theorem dX2_mix_338 : decode cX2_mix 338 = .ok (.invokevirtual 79, 3) := by decide +kernel
theorem dX2_mix_341 : decode cX2_mix 341 = .ok (.aload_n 0, 1) := by decide +kernel
theorem dX2_mix_342 : decode cX2_mix 342 = .ok (.iconst 0, 1) := by decide +kernel
theorem dX2_mix_343 : decode cX2_mix 343 = .ok (.iconst 5, 1) := by decide +kernel
theorem dX2_mix_344 : decode cX2_mix 344 = .ok (.bipush 10, 2) := by decide +kernel
theorem dX2_mix_346 : decode cX2_mix 346 = .ok (.bipush 15, 2) := by decide +kernel
theorem dX2_mix_348 : decode cX2_mix 348 = .ok (.aload_n 0, 1) := by decide +kernel
theorem dX2_mix_349 : decode cX2_mix 349 = .ok (.getfield 19, 3) := by decide +kernel
theorem dX2_mix_352 : decode cX2_mix 352 = .ok (.aload_n 0, 1) := by decide +kernel
theorem dX2_mix_353 : decode cX2_mix 353 = .ok (.getfield 25, 3) := by decide +kernel
theorem dX2_mix_356 : decode cX2_mix 356 = .ok (.iload 4, 2) := by decide +kernel
theorem dX2_mix_358 : decode cX2_mix 358 = .ok (.bipush 8, 2) := by decide +kernel
theorem dX2_mix_360 : decode cX2_mix 360 = .ok (.iadd, 1) := by decide +kernel
theorem dX2_mix_361 : decode cX2_mix 361 = .ok (.iaload, 1) := by decide +kernel
theorem dX2_mix_362 : decode cX2_mix 362 = .ok (.iaload, 1) := by decide +kernel
theorem dX2_mix_363 : decode cX2_mix 363 = .ok (.aload_n 0, 1) := by decide +kernel
theorem dX2_mix_364 : decode cX2_mix 364 = .ok (.getfield 19, 3) := by decide +kernel
theorem dX2_mix_367 : decode cX2_mix 367 = .ok (.aload_n 0, 1) := by decide +kernel
theorem dX2_mix_368 : decode cX2_mix 368 = .ok (.getfield 25, 3) := by decide +kernel
theorem dX2_mix_371 : decode cX2_mix 371 = .ok (.iload 4, 2) := by decide +kernel
theorem dX2_mix_373 : decode cX2_mix 373 = .ok (.bipush 9, 2) := by decide +kernel
theorem dX2_mix_375 : decode cX2_mix 375 = .ok (.iadd, 1) := by decide +kernel
theorem dX2_mix_376 : decode cX2_mix 376 = .ok (.iaload, 1) := by decide +kernel
theorem dX2_mix_377 : decode cX2_mix 377 = .ok (.iaload, 1) := by decide +kernel
theorem dX2_mix_378 : decode cX2_mix 378 = .ok (.invokevirtual 79, 3) := by decide +kernel
theorem dX2_mix_381 : decode cX2_mix 381 = .ok (.aload_n 0, 1) := by decide +kernel
theorem dX2_mix_382 : decode cX2_mix 382 = .ok (.iconst 1, 1) := by decide +kernel
theorem dX2_mix_383 : decode cX2_mix 383 = .ok (.bipush 6, 2) := by decide +kernel
theorem dX2_mix_385 : decode cX2_mix 385 = .ok (.bipush 11, 2) := by decide +kernel
theorem dX2_mix_387 : decode cX2_mix 387 = .ok (.bipush 12, 2) := by decide +kernel
theorem dX2_mix_389 : decode cX2_mix 389 = .ok (.aload_n 0, 1) := by decide +kernel
theorem dX2_mix_390 : decode cX2_mix 390 = .ok (.getfield 19, 3) := by decide +kernel
theorem dX2_mix_393 : decode cX2_mix 393 = .ok (.aload_n 0, 1) := by decide +kernel
theorem dX2_mix_394 : decode cX2_mix 394 = .ok (.getfield 25, 3) := by decide +kernel
theorem dX2_mix_397 : decode cX2_mix 397 = .ok (.iload 4, 2) := by decide +kernel
theorem dX2_mix_399 : decode cX2_mix 399 = .ok (.bipush 10, 2) := by decide +kernel
theorem dX2_mix_401 : decode cX2_mix 401 = .ok (.iadd, 1) := by decide +kernel
theorem dX2_mix_402 : decode cX2_mix 402 = .ok (.iaload, 1) := by decide +kernel
theorem dX2_mix_403 : decode cX2_mix 403 = .ok (.iaload, 1) := by decide +kernel
theorem dX2_mix_404 : decode cX2_mix 404 = .ok (.aload_n 0, 1) := by decide +kernel
theorem dX2_mix_405 : decode cX2_mix 405 = .ok (.getfield 19, 3) := by decide +kernel
theorem dX2_mix_408 : decode cX2_mix 408 = .ok (.aload_n 0, 1) := by decide +kernel
theorem dX2_mix_409 : decode cX2_mix 409 = .ok (.getfield 25, 3) := by decide +kernel
theorem dX2_mix_412 : decode cX2_mix 412 = .ok (.iload 4, 2) := by decide +kernel
theorem dX2_mix_414 : decode cX2_mix 414 = .ok (.bipush 11, 2) := by decide +kernel
theorem dX2_mix_416 : decode cX2_mix 416 = .ok (.iadd, 1) := by decide +kernel
theorem dX2_mix_417 : decode cX2_mix 417 = .ok (.iaload, 1) := by decide +kernel
theorem dX2_mix_418 : decode cX2_mix 418 = .ok (.iaload, 1) := by decide +kernel
theorem dX2_mix_419 : decode cX2_mix 419 = .ok (.invokevirtual 79, 3) := by decide +kernel
theorem dX2_mix_422 : decode cX2_mix 422 = .ok (.aload_n 0, 1) := by decide +kernel
theorem dX2_mix_423 : decode cX2_mix 423 = .ok (.iconst 2, 1) := by decide +kernel
theorem dX2_mix_424 : decode cX2_mix 424 = .ok (.bipush 7, 2) := by decide +kernel
theorem dX2_mix_426 : decode cX2_mix 426 = .ok (.bipush 8, 2) := by decide +kernel
theorem dX2_mix_428 : decode cX2_mix 428 = .ok (.bipush 13, 2) := by decide +kernel
theorem dX2_mix_430 : decode cX2_mix 430 = .ok (.aload_n 0, 1) := by decide +kernel
theorem dX2_mix_431 : decode cX2_mix 431 = .ok (.getfield 19, 3) := by decide +kernel
theorem dX2_mix_434 : decode cX2_mix 434 = .ok (.aload_n 0, 1) := by decide +kernel
theorem dX2_mix_435 : decode cX2_mix 435 = .ok (.getfield 25, 3) := by decide +kernel
theorem dX2_mix_438 : decode cX2_mix 438 = .ok (.iload 4, 2) := by decide +kernel
theorem dX2_mix_440 : decode cX2_mix 440 = .ok (.bipush 12, 2) := by decide +kernel
theorem dX2_mix_442 : decode cX2_mix 442 = .ok (.iadd, 1) := by decide +kernel
theorem dX2_mix_443 : decode cX2_mix 443 = .ok (.iaload, 1) := by decide +kernel
theorem dX2_mix_444 : decode cX2_mix 444 = .ok (.iaload, 1) := by decide +kernel
theorem dX2_mix_445 : decode cX2_mix 445 = .ok (.aload_n 0, 1) := by decide +kernel
theorem dX2_mix_446 : decode cX2_mix 446 = .ok (.getfield 19, 3) := by decide +kernel
theorem dX2_mix_449 : decode cX2_mix 449 = .ok (.aload_n 0, 1) := by decide +kernel
theorem dX2_mix_450 : decode cX2_mix 450 = .ok (.getfield 25, 3) := by decide +kernel
theorem dX2_mix_453 : decode cX2_mix 453 = .ok (.iload 4, 2) := by decide +kernel
theorem dX2_mix_455 : decode cX2_mix 455 = .ok (.bipush 13, 2) := by decide +kernel
theorem dX2_mix_457 : decode cX2_mix 457 = .ok (.iadd, 1) := by decide +kernel
theorem dX2_mix_458 : decode cX2_mix 458 = .ok (.iaload, 1) := by decide +kernel
theorem dX2_mix_459 : decode cX2_mix 459 = .ok (.iaload, 1) := by decide +kernel
theorem dX2_mix_460 : decode cX2_mix 460 = .ok (.invokevirtual 79, 3) := by decide +kernel
theorem dX2_mix_463 : decode cX2_mix 463 = .ok (.aload_n 0, 1) := by decide +kernel
theorem dX2_mix_464 : decode cX2_mix 464 = .ok (.iconst 3, 1) := by decide +kernel
theorem dX2_mix_465 : decode cX2_mix 465 = .ok (.iconst 4, 1) := by decide +kernel
theorem dX2_mix_466 : decode cX2_mix 466 = .ok (.bipush 9, 2) := by decide +kernel
theorem dX2_mix_468 : decode cX2_mix 468 = .ok (.bipush 14, 2) := by decide +kernel
theorem dX2_mix_470 : decode cX2_mix 470 = .ok (.aload_n 0, 1) := by decide +kernel
theorem dX2_mix_471 : decode cX2_mix 471 = .ok (.getfield 19, 3) := by decide +kernel
theorem dX2_mix_474 : decode cX2_mix 474 = .ok (.aload_n 0, 1) := by decide +kernel
theorem dX2_mix_475 : decode cX2_mix 475 = .ok (.getfield 25, 3) := by decide +kernel
theorem dX2_mix_478 : decode cX2_mix 478 = .ok (.iload 4, 2) := by decide +kernel
theorem dX2_mix_480 : decode cX2_mix 480 = .ok (.bipush 14, 2) := by decide +kernel
theorem dX2_mix_482 : decode cX2_mix 482 = .ok (.iadd, 1) := by decide +kernel
theorem dX2_mix_483 : decode cX2_mix 483 = .ok (.iaload, 1) := by decide +kernel
theorem dX2_mix_484 : decode cX2_mix 484 = .ok (.iaload, 1) := by decide +kernel
theorem dX2_mix_485 : decode cX2_mix 485 = .ok (.aload_n 0, 1) := by decide +kernel
theorem dX2_mix_486 : decode cX2_mix 486 = .ok (.getfield 19, 3) := by decide +kernel
theorem dX2_mix_489 : decode cX2_mix 489 = .ok (.aload_n 0, 1) := by decide +kernel
theorem dX2_mix_490 : decode cX2_mix 490 = .ok (.getfield 25, 3) := by decide +kernel
theorem dX2_mix_493 : decode cX2_mix 493 = .ok (.iload 4, 2) := by decide +kernel
theorem dX2_mix_495 : decode cX2_mix 495 = .ok (.bipush 15, 2) := by decide +kernel
theorem dX2_mix_497 : decode cX2_mix 497 = .ok (.iadd, 1) := by decide +kernel
theorem dX2_mix_498 : decode cX2_mix 498 = .ok (.iaload, 1) := by decide +kernel
theorem dX2_mix_499 : decode cX2_mix 499 = .ok (.iaload, 1) := by decide +kernel
theorem dX2_mix_500 : decode cX2_mix 500 = .ok (.invokevirtual 79, 3) := by decide +kernel
theorem dX2_mix_503 : decode cX2_mix 503 = .ok (.iload 4, 2) := by decide +kernel
theorem dX2_mix_505 : decode cX2_mix 505 = .ok (.bipush 16, 2) := by decide +kernel
theorem dX2_mix_507 : decode cX2_mix 507 = .ok (.iadd, 1) := by decide +kernel
theorem dX2_mix_508 : decode cX2_mix 508 = .ok (.istore 4, 2) := by decide +kernel
theorem dX2_mix_510 : decode cX2_mix 510 = .ok (.goto (-331), 3) := by decide +kernel
theorem dX2_mix_513 : decode cX2_mix 513 = .ok (.iconst 0, 1) := by decide +kernel
theorem dX2_mix_514 : decode cX2_mix 514 = .ok (.istore 4, 2) := by decide +kernel
theorem dX2_mix_516 : decode cX2_mix 516 = .ok (.iload 4, 2) := by decide +kernel
theorem dX2_mix_518 : decode cX2_mix 518 = .ok (.bipush 8, 2) := by decide +kernel
theorem dX2_mix_520 : decode cX2_mix 520 = .ok (.if_icmp .ge 42, 3) := by decide +kernel
theorem dX2_mix_523 : decode cX2_mix 523 = .ok (.aload_n 0, 1) := by decide +kernel
theorem dX2_mix_524 : decode cX2_mix 524 = .ok (.getfield 13, 3) := by decide +kernel
theorem dX2_mix_527 : decode cX2_mix 527 = .ok (.iload 4, 2) := by decide +kernel
theorem dX2_mix_529 : decode cX2_mix 529 = .ok (.aload_n 0, 1) := by decide +kernel
theorem dX2_mix_530 : decode cX2_mix 530 = .ok (.getfield 13, 3) := by decide +kernel
theorem dX2_mix_533 : decode cX2_mix 533 = .ok (.iload 4, 2) := by decide +kernel
theorem dX2_mix_535 : decode cX2_mix 535 = .ok (.iaload, 1) := by decide +kernel
theorem dX2_mix_536 : decode cX2_mix 536 = .ok (.aload_n 0, 1) := by decide +kernel
theorem dX2_mix_537 : decode cX2_mix 537 = .ok (.getfield 16, 3) := by decide +kernel
theorem dX2_mix_540 : decode cX2_mix 540 = .ok (.iload 4, 2) := by decide +kernel
theorem dX2_mix_542 : decode cX2_mix 542 = .ok (.iaload, 1) := by decide +kernel
theorem dX2_mix_543 : decode cX2_mix 543 = .ok (.ixor, 1) := by decide +kernel
theorem dX2_mix_544 : decode cX2_mix 544 = .ok (.aload_n 0, 1) := by decide +kernel
theorem dX2_mix_545 : decode cX2_mix 545 = .ok (.getfield 16, 3) := by decide +kernel
theorem dX2_mix_548 : decode cX2_mix 548 = .ok (.iload 4, 2) := by decide +kernel
theorem dX2_mix_550 : decode cX2_mix 550 = .ok (.bipush 8, 2) := by decide +kernel
theorem dX2_mix_552 : decode cX2_mix 552 = .ok (.iadd, 1) := by decide +kernel
theorem dX2_mix_553 : decode cX2_mix 553 = .ok (.iaload, 1) := by decide +kernel
theorem dX2_mix_554 : decode cX2_mix 554 = .ok (.ixor, 1) := by decide +kernel
theorem dX2_mix_555 : decode cX2_mix 555 = .ok (.iastore, 1) := by decide +kernel
theorem dX2_mix_556 : decode cX2_mix 556 = .ok (.iinc 4 1, 3) := by decide +kernel
theorem dX2_mix_559 : decode cX2_mix 559 = .ok (.goto (-43), 3) := by decide +kernel
theorem dX2_mix_562 : decode cX2_mix 562 = .ok (.return_, 1) := by decide +kernel
set_option maxRecDepth 20000 in
theorem ggX2_update_X2_take : GoodIn wsX2_update wsX2_take := goodIn_r _ [7, 8, 9, 10, 11, 12, 13, 14, 6, 15, 16, 17, 18, 19, 20, 21, 22, 23, 24, 25, 26, 27, 28, 29, 30, 31, 32, 33, 34, 35, 36, 37, 38, 39, 40, 41, 42, 43, 44, 45, 46, 47, 48, 49, 50] rfl (by decide +kernel)
set_option maxRecDepth 20000 in
theorem gX2_update_X2_take : GoodIn wsX2_update (wsV RX2 65 RX2 yX2_take wsX2_take) := goodIn_app (goodIn_of _ (by decide +kernel)) ggX2_update_X2_take
theorem dX2_update_0 : decode cX2_update 0 = .ok (.aload_n 0, 1) := by decide +kernel
theorem dX2_update_1 : decode cX2_update 1 = .ok (.getfield 32, 3) := by decide +kernel
theorem dX2_update_4 : decode cX2_update 4 = .ok (.ifCond .eq 18, 3) := by decide +kernel
theorem dX2_update_7 : decode cX2_update 7 = .ok (.iload_n 1, 1) := by decide +kernel
theorem dX2_update_8 : decode cX2_update 8 = .ok (.ifCond .lt 14, 3) := by decide +kernel
theorem dX2_update_11 : decode cX2_update 11 = .ok (.iload_n 1, 1) := by decide +kernel
theorem dX2_update_12 : decode cX2_update 12 = .ok (.sipush 256, 3) := by decide +kernel
theorem dX2_update_15 : decode cX2_update 15 = .ok (.if_icmp .ge 7, 3) := by decide +kernel
theorem dX2_update_18 : decode cX2_update 18 = .ok (.iconst 1, 1) := by decide +kernel
theorem dX2_update_19 : decode cX2_update 19 = .ok (.goto 4, 3) := by decide +kernel
theorem dX2_update_22 : decode cX2_update 22 = .ok (.iconst 0, 1) := by decide +kernel
theorem dX2_update_23 : decode cX2_update 23 = .ok (.istore_n 2, 1) := by decide +kernel
theorem dX2_update_24 : decode cX2_update 24 = .ok (.iload_n 2, 1) := by decide +kernel
theorem dX2_update_25 : decode cX2_update 25 = .ok (.ifCond .eq 18, 3) := by decide +kernel
theorem dX2_update_28 : decode cX2_update 28 = .ok (.aload_n 0, 1) := by decide +kernel
theorem dX2_update_29 : decode cX2_update 29 = .ok (.iload_n 1, 1) := by decide +kernel
theorem dX2_update_30 : decode cX2_update 30 = .ok (.invokevirtual 65, 3) := by decide +kernel
theorem dX2_update_33 : decode cX2_update 33 = .ok (.aload_n 0, 1) := by decide +kernel
theorem dX2_update_34 : decode cX2_update 34 = .ok (.dup, 1) := by decide +kernel
theorem dX2_update_35 : decode cX2_update 35 = .ok (.getfield 62, 3) := by decide +kernel
theorem dX2_update_38 : decode cX2_update 38 = .ok (.iconst 1, 1) := by decide +kernel
theorem dX2_update_39 : decode cX2_update 39 = .ok (.iadd, 1) := by decide +kernel
theorem dX2_update_40 : decode cX2_update 40 = .ok (.putfield 62, 3) := by decide +kernel
theorem dX2_update_43 : decode cX2_update 43 = .ok (.iload_n 2, 1) := by decide +kernel
theorem dX2_update_44 : decode cX2_update 44 = .ok (.ireturn, 1) := by decide +kernel
set_option maxRecDepth 20000 in
theorem ggX2_updates_X2_take : GoodIn wsX2_updates wsX2_take := goodIn_r _ [7, 8, 9, 10, 11, 12, 13, 14, 6, 15, 16, 17, 18, 19, 20, 21, 22, 23, 24, 25, 26, 27, 28, 29, 30, 31, 32, 33, 34, 35, 36, 37, 38, 39, 40, 41, 42, 43, 44, 45, 46, 47, 48, 49, 50] rfl (by decide +kernel)
set_option maxRecDepth 20000 in
theorem gX2_updates_X2_take : GoodIn wsX2_updates (wsV RX2 65 RX2 yX2_take wsX2_take) := goodIn_app (goodIn_of _ (by decide +kernel)) ggX2_updates_X2_take
theorem dX2_updates_0 : decode cX2_updates 0 = .ok (.aload_n 0, 1) := by decide +kernel
theorem dX2_updates_1 : decode cX2_updates 1 = .ok (.getfield 32, 3) := by decide +kernel
theorem dX2_updates_4 : decode cX2_updates 4 = .ok (.ifCond .eq 20, 3) := by decide +kernel
theorem dX2_updates_7 : decode cX2_updates 7 = .ok (.iload 5, 2) := by decide +kernel
theorem dX2_updates_9 : decode cX2_updates 9 = .ok (.iconst 1, 1) := by decide +kernel
theorem dX2_updates_10 : decode cX2_updates 10 = .ok (.if_icmp .lt 14, 3) := by decide +kernel
theorem dX2_updates_13 : decode cX2_updates 13 = .ok (.iload 5, 2) := by decide +kernel
theorem dX2_updates_15 : decode cX2_updates 15 = .ok (.bipush 16, 2) := by decide +kernel
theorem dX2_updates_17 : decode cX2_updates 17 = .ok (.if_icmp .gt 7, 3) := by decide +kernel
theorem dX2_updates_20 : decode cX2_updates 20 = .ok (.iconst 1, 1) := by decide +kernel
theorem dX2_updates_21 : decode cX2_updates 21 = .ok (.goto 4, 3) := by decide +kernel
theorem dX2_updates_24 : decode cX2_updates 24 = .ok (.iconst 0, 1) := by decide +kernel
theorem dX2_updates_25 : decode cX2_updates 25 = .ok (.istore 6, 2) := by decide +kernel
theorem dX2_updates_27 : decode cX2_updates 27 = .ok (.iconst 0, 1) := by decide +kernel
theorem dX2_updates_28 : decode cX2_updates 28 = .ok (.istore 7, 2) := by decide +kernel
theorem dX2_updates_30 : decode cX2_updates 30 = .ok (.iload 7, 2) := by decide +kernel
theorem dX2_updates_32 : decode cX2_updates 32 = .ok (.iload 5, 2) := by decide +kernel
theorem dX2_updates_34 : decode cX2_updates 34 = .ok (.if_icmp .ge 81, 3) := by decide +kernel
theorem dX2_updates_37 : decode cX2_updates 37 = .ok (.iload 6, 2) := by decide +kernel
theorem dX2_updates_39 : decode cX2_updates 39 = .ok (.ifCond .eq 76, 3) := by decide +kernel
theorem dX2_updates_42 : decode cX2_updates 42 = .ok (.iload 7, 2) := by decide +kernel
theorem dX2_updates_44 : decode cX2_updates 44 = .ok (.iconst 4, 1) := by decide +kernel
theorem dX2_updates_45 : decode cX2_updates 45 = .ok (.if_icmp .ge 7, 3) := by decide +kernel
theorem dX2_updates_48 : decode cX2_updates 48 = .ok (.iload_n 1, 1) := by decide +kernel
theorem dX2_updates_49 : decode cX2_updates 49 = .ok (.goto 27, 3) := by decide +kernel
theorem dX2_updates_52 : decode cX2_updates 52 = .ok (.iload 7, 2) := by decide +kernel
theorem dX2_updates_54 : decode cX2_updates 54 = .ok (.bipush 8, 2) := by decide +kernel
theorem dX2_updates_56 : decode cX2_updates 56 = .ok (.if_icmp .ge 7, 3) := by decide +kernel
theorem dX2_updates_59 : decode cX2_updates 59 = .ok (.iload_n 2, 1) := by decide +kernel
theorem dX2_updates_60 : decode cX2_updates 60 = .ok (.goto 16, 3) := by decide +kernel
theorem dX2_updates_63 : decode cX2_updates 63 = .ok (.iload 7, 2) := by decide +kernel
theorem dX2_updates_65 : decode cX2_updates 65 = .ok (.bipush 12, 2) := by decide +kernel
theorem dX2_updates_67 : decode cX2_updates 67 = .ok (.if_icmp .ge 7, 3) := by decide +kernel
theorem dX2_updates_70 : decode cX2_updates 70 = .ok (.iload_n 3, 1) := by decide +kernel
theorem dX2_updates_71 : decode cX2_updates 71 = .ok (.goto 5, 3) := by decide +kernel
theorem dX2_updates_74 : decode cX2_updates 74 = .ok (.iload 4, 2) := by decide +kernel
theorem dX2_updates_76 : decode cX2_updates 76 = .ok (.istore 8, 2) := by decide +kernel
theorem dX2_updates_78 : decode cX2_updates 78 = .ok (.aload_n 0, 1) := by decide +kernel
theorem dX2_updates_79 : decode cX2_updates 79 = .ok (.iload 8, 2) := by decide +kernel
theorem dX2_updates_81 : decode cX2_updates 81 = .ok (.bipush 24, 2) := by decide +kernel
theorem dX2_updates_83 : decode cX2_updates 83 = .ok (.bipush 8, 2) := by decide +kernel
theorem dX2_updates_85 : decode cX2_updates 85 = .ok (.iload 7, 2) := by decide +kernel
theorem dX2_updates_87 : decode cX2_updates 87 = .ok (.iconst 4, 1) := by decide +kernel
theorem dX2_updates_88 : decode cX2_updates 88 = .ok (.irem, 1) := by decide +kernel
theorem dX2_updates_89 : decode cX2_updates 89 = .ok (.imul, 1) := by decide +kernel
theorem dX2_updates_90 : decode cX2_updates 90 = .ok (.isub, 1) := by decide +kernel
theorem dX2_updates_91 : decode cX2_updates 91 = .ok (.ishr, 1) := by decide +kernel
theorem dX2_updates_92 : decode cX2_updates 92 = .ok (.sipush 255, 3) := by decide +kernel
theorem dX2_updates_95 : decode cX2_updates 95 = .ok (.iand, 1) := by decide +kernel
theorem dX2_updates_96 : decode cX2_updates 96 = .ok (.invokevirtual 65, 3) := by decide +kernel
theorem dX2_updates_99 : decode cX2_updates 99 = .ok (.aload_n 0, 1) := by decide +kernel
theorem dX2_updates_100 : decode cX2_updates 100 = .ok (.dup, 1) := by decide +kernel
theorem dX2_updates_101 : decode cX2_updates 101 = .ok (.getfield 62, 3) := by decide +kernel
theorem dX2_updates_104 : decode cX2_updates 104 = .ok (.iconst 1, 1) := by decide +kernel
theorem dX2_updates_105 : decode cX2_updates 105 = .ok (.iadd, 1) := by decide +kernel
theorem dX2_updates_106 : decode cX2_updates 106 = .ok (.putfield 62, 3) := by decide +kernel
theorem dX2_updates_109 : decode cX2_updates 109 = .ok (.iinc 7 1, 3) := by decide +kernel
theorem dX2_updates_112 : decode cX2_updates 112 = .ok (.goto (-82), 3) := by decide +kernel
theorem dX2_updates_115 : decode cX2_updates 115 = .ok (.iload 6, 2) := by decide +kernel
theorem dX2_updates_117 : decode cX2_updates 117 = .ok (.ireturn, 1) := by decide +kernel
set_option maxRecDepth 20000 in
theorem ggX2_fill_X2_take : GoodIn wsX2_fill wsX2_take := goodIn_r _ [7, 8, 9, 10, 11, 12, 13, 14, 6, 15, 16, 17, 18, 19, 20, 21, 22, 23, 24, 25, 26, 27, 28, 29, 30, 31, 32, 33, 34, 35, 36, 37, 38, 39, 40, 41, 42, 43, 44, 45, 46, 47, 48, 49, 50] rfl (by decide +kernel)
set_option maxRecDepth 20000 in
theorem gX2_fill_X2_take : GoodIn wsX2_fill (wsV RX2 65 RX2 yX2_take wsX2_take) := goodIn_app (goodIn_of _ (by decide +kernel)) ggX2_fill_X2_take
theorem dX2_fill_0 : decode cX2_fill 0 = .ok (.aload_n 0, 1) := by decide +kernel
theorem dX2_fill_1 : decode cX2_fill 1 = .ok (.getfield 32, 3) := by decide +kernel
theorem dX2_fill_4 : decode cX2_fill 4 = .ok (.ifCond .eq 29, 3) := by decide +kernel
theorem dX2_fill_7 : decode cX2_fill 7 = .ok (.iload_n 1, 1) := by decide +kernel
theorem dX2_fill_8 : decode cX2_fill 8 = .ok (.ifCond .lt 25, 3) := by decide +kernel
theorem dX2_fill_11 : decode cX2_fill 11 = .ok (.iload_n 1, 1) := by decide +kernel
theorem dX2_fill_12 : decode cX2_fill 12 = .ok (.sipush 256, 3) := by decide +kernel
theorem dX2_fill_15 : decode cX2_fill 15 = .ok (.if_icmp .ge 18, 3) := by decide +kernel
theorem dX2_fill_18 : decode cX2_fill 18 = .ok (.iload_n 2, 1) := by decide +kernel
theorem dX2_fill_19 : decode cX2_fill 19 = .ok (.ifCond .lt 14, 3) := by decide +kernel
theorem dX2_fill_22 : decode cX2_fill 22 = .ok (.iload_n 2, 1) := by decide +kernel
theorem dX2_fill_23 : decode cX2_fill 23 = .ok (.sipush 10000, 3) := by decide +kernel
theorem dX2_fill_26 : decode cX2_fill 26 = .ok (.if_icmp .gt 7, 3) := by decide +kernel
theorem dX2_fill_29 : decode cX2_fill 29 = .ok (.iconst 1, 1) := by decide +kernel
theorem dX2_fill_30 : decode cX2_fill 30 = .ok (.goto 4, 3) := by decide +kernel
theorem dX2_fill_33 : decode cX2_fill 33 = .ok (.iconst 0, 1) := by decide +kernel
theorem dX2_fill_34 : decode cX2_fill 34 = .ok (.istore_n 3, 1) := by decide +kernel
theorem dX2_fill_35 : decode cX2_fill 35 = .ok (.iconst 0, 1) := by decide +kernel
theorem dX2_fill_36 : decode cX2_fill 36 = .ok (.istore 4, 2) := by decide +kernel
theorem dX2_fill_38 : decode cX2_fill 38 = .ok (.iload 4, 2) := by decide +kernel
theorem dX2_fill_40 : decode cX2_fill 40 = .ok (.iload_n 2, 1) := by decide +kernel
theorem dX2_fill_41 : decode cX2_fill 41 = .ok (.if_icmp .ge 28, 3) := by decide +kernel
theorem dX2_fill_44 : decode cX2_fill 44 = .ok (.iload_n 3, 1) := by decide +kernel
theorem dX2_fill_45 : decode cX2_fill 45 = .ok (.ifCond .eq 24, 3) := by decide +kernel
theorem dX2_fill_48 : decode cX2_fill 48 = .ok (.aload_n 0, 1) := by decide +kernel
theorem dX2_fill_49 : decode cX2_fill 49 = .ok (.iload_n 1, 1) := by decide +kernel
theorem dX2_fill_50 : decode cX2_fill 50 = .ok (.invokevirtual 65, 3) := by decide +kernel
theorem dX2_fill_53 : decode cX2_fill 53 = .ok (.aload_n 0, 1) := by decide +kernel
theorem dX2_fill_54 : decode cX2_fill 54 = .ok (.dup, 1) := by decide +kernel
theorem dX2_fill_55 : decode cX2_fill 55 = .ok (.getfield 62, 3) := by decide +kernel
theorem dX2_fill_58 : decode cX2_fill 58 = .ok (.iconst 1, 1) := by decide +kernel
theorem dX2_fill_59 : decode cX2_fill 59 = .ok (.iadd, 1) := by decide +kernel
theorem dX2_fill_60 : decode cX2_fill 60 = .ok (.putfield 62, 3) := by decide +kernel
theorem dX2_fill_63 : decode cX2_fill 63 = .ok (.iinc 4 1, 3) := by decide +kernel
theorem dX2_fill_66 : decode cX2_fill 66 = .ok (.goto (-28), 3) := by decide +kernel
theorem dX2_fill_69 : decode cX2_fill 69 = .ok (.iload_n 3, 1) := by decide +kernel
theorem dX2_fill_70 : decode cX2_fill 70 = .ok (.ireturn, 1) := by decide +kernel
set_option maxRecDepth 20000 in
theorem ggX2_finish_X2_mix : GoodIn wsX2_finish wsX2_mix := goodIn_r _ [10, 11, 4, 12, 13, 14, 15, 16, 9, 17, 18, 19, 20, 21, 22, 23, 24, 25, 26, 27, 28, 29, 30, 31, 32, 33, 34, 35, 36, 37, 38, 39, 40, 41, 42, 43, 44, 45] rfl (by decide +kernel)
set_option maxRecDepth 20000 in
theorem gX2_finish_X2_mix : GoodIn wsX2_finish (wsV RX2 71 RX2 yX2_mix wsX2_mix) := goodIn_app (goodIn_of _ (by decide +kernel)) ggX2_finish_X2_mix
theorem dX2_finish_0 : decode cX2_finish 0 = .ok (.aload_n 0, 1) := by decide +kernel
theorem dX2_finish_1 : decode cX2_finish 1 = .ok (.getfield 32, 3) := by decide +kernel
theorem dX2_finish_4 : decode cX2_finish 4 = .ok (.ifCond .ne 5, 3) := by decide +kernel
theorem dX2_finish_7 : decode cX2_finish 7 = .ok (.iconst 0, 1) := by decide +kernel
theorem dX2_finish_8 : decode cX2_finish 8 = .ok (.ireturn, 1) := by decide +kernel
theorem dX2_finish_9 : decode cX2_finish 9 = .ok (.aload_n 0, 1) := by decide +kernel
theorem dX2_finish_10 : decode cX2_finish 10 = .ok (.aload_n 0, 1) := by decide +kernel
theorem dX2_finish_11 : decode cX2_finish 11 = .ok (.getfield 58, 3) := by decide +kernel
theorem dX2_finish_14 : decode cX2_finish 14 = .ok (.aload_n 0, 1) := by decide +kernel
theorem dX2_finish_15 : decode cX2_finish 15 = .ok (.getfield 55, 3) := by decide +kernel
theorem dX2_finish_18 : decode cX2_finish 18 = .ok (.i2l, 1) := by decide +kernel
theorem dX2_finish_19 : decode cX2_finish 19 = .ok (.ladd, 1) := by decide +kernel
theorem dX2_finish_20 : decode cX2_finish 20 = .ok (.putfield 58, 3) := by decide +kernel
theorem dX2_finish_23 : decode cX2_finish 23 = .ok (.aload_n 0, 1) := by decide +kernel
theorem dX2_finish_24 : decode cX2_finish 24 = .ok (.getfield 55, 3) := by decide +kernel
theorem dX2_finish_27 : decode cX2_finish 27 = .ok (.istore_n 1, 1) := by decide +kernel
theorem dX2_finish_28 : decode cX2_finish 28 = .ok (.iload_n 1, 1) := by decide +kernel
theorem dX2_finish_29 : decode cX2_finish 29 = .ok (.bipush 64, 2) := by decide +kernel
theorem dX2_finish_31 : decode cX2_finish 31 = .ok (.if_icmp .ge 16, 3) := by decide +kernel
theorem dX2_finish_34 : decode cX2_finish 34 = .ok (.aload_n 0, 1) := by decide +kernel
theorem dX2_finish_35 : decode cX2_finish 35 = .ok (.getfield 22, 3) := by decide +kernel
theorem dX2_finish_38 : decode cX2_finish 38 = .ok (.iload_n 1, 1) := by decide +kernel
theorem dX2_finish_39 : decode cX2_finish 39 = .ok (.iconst 0, 1) := by decide +kernel
theorem dX2_finish_40 : decode cX2_finish 40 = .ok (.iastore, 1) := by decide +kernel
theorem dX2_finish_41 : decode cX2_finish 41 = .ok (.iinc 1 1, 3) := by decide +kernel
theorem dX2_finish_44 : decode cX2_finish 44 = .ok (.goto (-16), 3) := by decide +kernel
theorem dX2_finish_47 : decode cX2_finish 47 = .ok (.aload_n 0, 1) := by decide +kernel
theorem dX2_finish_48 : decode cX2_finish 48 = .ok (.aload_n 0, 1) := by decide +kernel
theorem dX2_finish_49 : decode cX2_finish 49 = .ok (.getfield 58, 3) := by decide +kernel
theorem dX2_finish_52 : decode cX2_finish 52 = .ok (.iconst 1, 1) := by decide +kernel
theorem dX2_finish_53 : decode cX2_finish 53 = .ok (.invokevirtual 71, 3) := by decide +kernel
theorem dX2_finish_56 : decode cX2_finish 56 = .ok (.aload_n 0, 1) := by decide +kernel
theorem dX2_finish_57 : decode cX2_finish 57 = .ok (.iconst 0, 1) := by decide +kernel
theorem dX2_finish_58 : decode cX2_finish 58 = .ok (.putfield 32, 3) := by decide +kernel
theorem dX2_finish_61 : decode cX2_finish 61 = .ok (.aload_n 0, 1) := by decide +kernel
theorem dX2_finish_62 : decode cX2_finish 62 = .ok (.iconst 1, 1) := by decide +kernel
theorem dX2_finish_63 : decode cX2_finish 63 = .ok (.putfield 35, 3) := by decide +kernel
theorem dX2_finish_66 : decode cX2_finish 66 = .ok (.iconst 1, 1) := by decide +kernel
theorem dX2_finish_67 : decode cX2_finish 67 = .ok (.ireturn, 1) := by decide +kernel
theorem dX2_out_0 : decode cX2_out 0 = .ok (.aload_n 0, 1) := by decide +kernel
theorem dX2_out_1 : decode cX2_out 1 = .ok (.getfield 35, 3) := by decide +kernel
theorem dX2_out_4 : decode cX2_out 4 = .ok (.ifCond .eq 37, 3) := by decide +kernel
theorem dX2_out_7 : decode cX2_out 7 = .ok (.iload_n 1, 1) := by decide +kernel
theorem dX2_out_8 : decode cX2_out 8 = .ok (.ifCond .lt 33, 3) := by decide +kernel
theorem dX2_out_11 : decode cX2_out 11 = .ok (.iload_n 1, 1) := by decide +kernel
theorem dX2_out_12 : decode cX2_out 12 = .ok (.aload_n 0, 1) := by decide +kernel
theorem dX2_out_13 : decode cX2_out 13 = .ok (.getfield 51, 3) := by decide +kernel
theorem dX2_out_16 : decode cX2_out 16 = .ok (.if_icmp .ge 25, 3) := by decide +kernel
theorem dX2_out_19 : decode cX2_out 19 = .ok (.aload_n 0, 1) := by decide +kernel
theorem dX2_out_20 : decode cX2_out 20 = .ok (.getfield 13, 3) := by decide +kernel
theorem dX2_out_23 : decode cX2_out 23 = .ok (.iload_n 1, 1) := by decide +kernel
theorem dX2_out_24 : decode cX2_out 24 = .ok (.iconst 4, 1) := by decide +kernel
theorem dX2_out_25 : decode cX2_out 25 = .ok (.idiv, 1) := by decide +kernel
theorem dX2_out_26 : decode cX2_out 26 = .ok (.iaload, 1) := by decide +kernel
theorem dX2_out_27 : decode cX2_out 27 = .ok (.bipush 8, 2) := by decide +kernel
theorem dX2_out_29 : decode cX2_out 29 = .ok (.iload_n 1, 1) := by decide +kernel
theorem dX2_out_30 : decode cX2_out 30 = .ok (.iconst 4, 1) := by decide +kernel
theorem dX2_out_31 : decode cX2_out 31 = .ok (.irem, 1) := by decide +kernel
theorem dX2_out_32 : decode cX2_out 32 = .ok (.imul, 1) := by decide +kernel
theorem dX2_out_33 : decode cX2_out 33 = .ok (.iushr, 1) := by decide +kernel
theorem dX2_out_34 : decode cX2_out 34 = .ok (.sipush 255, 3) := by decide +kernel
theorem dX2_out_37 : decode cX2_out 37 = .ok (.iand, 1) := by decide +kernel
theorem dX2_out_38 : decode cX2_out 38 = .ok (.goto 4, 3) := by decide +kernel
theorem dX2_out_41 : decode cX2_out 41 = .ok (.iconst (-1), 1) := by decide +kernel
theorem dX2_out_42 : decode cX2_out 42 = .ok (.ireturn, 1) := by decide +kernel
theorem dX2_length_0 : decode cX2_length 0 = .ok (.aload_n 0, 1) := by decide +kernel
theorem dX2_length_1 : decode cX2_length 1 = .ok (.getfield 32, 3) := by decide +kernel
theorem dX2_length_4 : decode cX2_length 4 = .ok (.ifCond .ne 10, 3) := by decide +kernel
theorem dX2_length_7 : decode cX2_length 7 = .ok (.aload_n 0, 1) := by decide +kernel
theorem dX2_length_8 : decode cX2_length 8 = .ok (.getfield 35, 3) := by decide +kernel
theorem dX2_length_11 : decode cX2_length 11 = .ok (.ifCond .eq 10, 3) := by decide +kernel
theorem dX2_length_14 : decode cX2_length 14 = .ok (.aload_n 0, 1) := by decide +kernel
theorem dX2_length_15 : decode cX2_length 15 = .ok (.getfield 62, 3) := by decide +kernel
theorem dX2_length_18 : decode cX2_length 18 = .ok (.goto 4, 3) := by decide +kernel
theorem dX2_length_21 : decode cX2_length 21 = .ok (.iconst (-1), 1) := by decide +kernel
theorem dX2_length_22 : decode cX2_length 22 = .ok (.ireturn, 1) := by decide +kernel
theorem dX2_word_0 : decode cX2_word 0 = .ok (.aload_n 0, 1) := by decide +kernel
theorem dX2_word_1 : decode cX2_word 1 = .ok (.getfield 32, 3) := by decide +kernel
theorem dX2_word_4 : decode cX2_word 4 = .ok (.ifCond .ne 10, 3) := by decide +kernel
theorem dX2_word_7 : decode cX2_word 7 = .ok (.aload_n 0, 1) := by decide +kernel
theorem dX2_word_8 : decode cX2_word 8 = .ok (.getfield 35, 3) := by decide +kernel
theorem dX2_word_11 : decode cX2_word 11 = .ok (.ifCond .eq 22, 3) := by decide +kernel
theorem dX2_word_14 : decode cX2_word 14 = .ok (.iload_n 1, 1) := by decide +kernel
theorem dX2_word_15 : decode cX2_word 15 = .ok (.ifCond .lt 18, 3) := by decide +kernel
theorem dX2_word_18 : decode cX2_word 18 = .ok (.iload_n 1, 1) := by decide +kernel
theorem dX2_word_19 : decode cX2_word 19 = .ok (.bipush 8, 2) := by decide +kernel
theorem dX2_word_21 : decode cX2_word 21 = .ok (.if_icmp .ge 12, 3) := by decide +kernel
theorem dX2_word_24 : decode cX2_word 24 = .ok (.aload_n 0, 1) := by decide +kernel
theorem dX2_word_25 : decode cX2_word 25 = .ok (.getfield 13, 3) := by decide +kernel
theorem dX2_word_28 : decode cX2_word 28 = .ok (.iload_n 1, 1) := by decide +kernel
theorem dX2_word_29 : decode cX2_word 29 = .ok (.iaload, 1) := by decide +kernel
theorem dX2_word_30 : decode cX2_word 30 = .ok (.goto 4, 3) := by decide +kernel
theorem dX2_word_33 : decode cX2_word 33 = .ok (.iconst 0, 1) := by decide +kernel
theorem dX2_word_34 : decode cX2_word 34 = .ok (.ireturn, 1) := by decide +kernel
theorem dJ9_min_7cf53_0 : decode cJ9_min_7cf53 0 = .ok (.iload_n 0, 1) := by decide +kernel
theorem dJ9_min_7cf53_1 : decode cJ9_min_7cf53 1 = .ok (.iload_n 1, 1) := by decide +kernel
theorem dJ9_min_7cf53_2 : decode cJ9_min_7cf53 2 = .ok (.if_icmp .gt 7, 3) := by decide +kernel
theorem dJ9_min_7cf53_5 : decode cJ9_min_7cf53 5 = .ok (.iload_n 0, 1) := by decide +kernel
theorem dJ9_min_7cf53_6 : decode cJ9_min_7cf53 6 = .ok (.goto 4, 3) := by decide +kernel
theorem dJ9_min_7cf53_9 : decode cJ9_min_7cf53 9 = .ok (.iload_n 1, 1) := by decide +kernel
theorem dJ9_min_7cf53_10 : decode cJ9_min_7cf53 10 = .ok (.ireturn, 1) := by decide +kernel
