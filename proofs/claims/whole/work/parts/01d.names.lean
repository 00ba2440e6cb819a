theorem dX1_init_0 : decode cX1_init 0 = .ok (.aload_n 0, 1) := by decide +kernel
theorem dX1_init_1 : decode cX1_init 1 = .ok (.invokespecial 1, 3) := by decide +kernel
theorem dX1_init_4 : decode cX1_init 4 = .ok (.aload_n 0, 1) := by decide +kernel
theorem dX1_init_5 : decode cX1_init 5 = .ok (.bipush 32, 2) := by decide +kernel
theorem dX1_init_7 : decode cX1_init 7 = .ok (.newarray .int, 2) := by decide +kernel
theorem dX1_init_9 : decode cX1_init 9 = .ok (.putfield 9, 3) := by decide +kernel
theorem dX1_init_12 : decode cX1_init 12 = .ok (.aload_n 0, 1) := by decide +kernel
theorem dX1_init_13 : decode cX1_init 13 = .ok (.new 13, 3) := by decide +kernel
theorem dX1_init_16 : decode cX1_init 16 = .ok (.dup, 1) := by decide +kernel
theorem dX1_init_17 : decode cX1_init 17 = .ok (.invokespecial 15, 3) := by decide +kernel
theorem dX1_init_20 : decode cX1_init 20 = .ok (.putfield 16, 3) := by decide +kernel
theorem dX1_init_23 : decode cX1_init 23 = .ok (.aload_n 0, 1) := by decide +kernel
theorem dX1_init_24 : decode cX1_init 24 = .ok (.iconst 0, 1) := by decide +kernel
theorem dX1_init_25 : decode cX1_init 25 = .ok (.putfield 20, 3) := by decide +kernel
theorem dX1_init_28 : decode cX1_init 28 = .ok (.aload_n 0, 1) := by decide +kernel
theorem dX1_init_29 : decode cX1_init 29 = .ok (.iconst 0, 1) := by decide +kernel
theorem dX1_init_30 : decode cX1_init 30 = .ok (.putfield 24, 3) := by decide +kernel
theorem dX1_init_33 : decode cX1_init 33 = .ok (.aload_n 0, 1) := by decide +kernel
theorem dX1_init_34 : decode cX1_init 34 = .ok (.iconst 0, 1) := by decide +kernel
theorem dX1_init_35 : decode cX1_init 35 = .ok (.putfield 27, 3) := by decide +kernel
theorem dX1_init_38 : decode cX1_init 38 = .ok (.return_, 1) := by decide +kernel
theorem dX1_init__0 : decode cX1_init_ 0 = .ok (.iconst 0, 1) := by decide +kernel
theorem dX1_init__1 : decode cX1_init_ 1 = .ok (.istore_n 1, 1) := by decide +kernel
theorem dX1_init__2 : decode cX1_init_ 2 = .ok (.iload_n 1, 1) := by decide +kernel
theorem dX1_init__3 : decode cX1_init_ 3 = .ok (.bipush 32, 2) := by decide +kernel
theorem dX1_init__5 : decode cX1_init_ 5 = .ok (.if_icmp .ge 16, 3) := by decide +kernel
theorem dX1_init__8 : decode cX1_init_ 8 = .ok (.aload_n 0, 1) := by decide +kernel
theorem dX1_init__9 : decode cX1_init_ 9 = .ok (.getfield 9, 3) := by decide +kernel
theorem dX1_init__12 : decode cX1_init_ 12 = .ok (.iload_n 1, 1) := by decide +kernel
theorem dX1_init__13 : decode cX1_init_ 13 = .ok (.iconst 0, 1) := by decide +kernel
theorem dX1_init__14 : decode cX1_init_ 14 = .ok (.iastore, 1) := by decide +kernel
theorem dX1_init__15 : decode cX1_init_ 15 = .ok (.iinc 1 1, 3) := by decide +kernel
theorem dX1_init__18 : decode cX1_init_ 18 = .ok (.goto (-16), 3) := by decide +kernel
theorem dX1_init__21 : decode cX1_init_ 21 = .ok (.aload_n 0, 1) := by decide +kernel
theorem dX1_init__22 : decode cX1_init_ 22 = .ok (.iconst 1, 1) := by decide +kernel
theorem dX1_init__23 : decode cX1_init_ 23 = .ok (.putfield 20, 3) := by decide +kernel
theorem dX1_init__26 : decode cX1_init_ 26 = .ok (.return_, 1) := by decide +kernel
set_option maxRecDepth 20000 in
theorem ggX1_setKeyByte_X1_isByte : GoodIn wsX1_setKeyByte wsX1_isByte := goodIn_r _ [6] (by decide +kernel) (by decide +kernel)
set_option maxRecDepth 20000 in
theorem gX1_setKeyByte_X1_isByte : GoodIn wsX1_setKeyByte (va_wsS RX1 30 yX1_isByte wsX1_isByte) := goodIn_app (goodIn_of _ (by decide +kernel)) ggX1_setKeyByte_X1_isByte
theorem dX1_setKeyByte_0 : decode cX1_setKeyByte 0 = .ok (.iload_n 1, 1) := by decide +kernel
theorem dX1_setKeyByte_1 : decode cX1_setKeyByte 1 = .ok (.ifCond .lt 24, 3) := by decide +kernel
theorem dX1_setKeyByte_4 : decode cX1_setKeyByte 4 = .ok (.iload_n 1, 1) := by decide +kernel
theorem dX1_setKeyByte_5 : decode cX1_setKeyByte 5 = .ok (.bipush 32, 2) := by decide +kernel
theorem dX1_setKeyByte_7 : decode cX1_setKeyByte 7 = .ok (.if_icmp .ge 18, 3) := by decide +kernel
theorem dX1_setKeyByte_10 : decode cX1_setKeyByte 10 = .ok (.iload_n 2, 1) := by decide +kernel
theorem dX1_setKeyByte_11 : decode cX1_setKeyByte 11 = .ok (.invokestatic 30, 3) := by decide +kernel
theorem dX1_setKeyByte_14 : decode cX1_setKeyByte 14 = .ok (.ifCond .eq 11, 3) := by decide +kernel
theorem dX1_setKeyByte_17 : decode cX1_setKeyByte 17 = .ok (.aload_n 0, 1) := by decide +kernel
theorem dX1_setKeyByte_18 : decode cX1_setKeyByte 18 = .ok (.getfield 20, 3) := by decide +kernel
theorem dX1_setKeyByte_21 : decode cX1_setKeyByte 21 = .ok (.iconst 2, 1) := by decide +kernel
theorem dX1_setKeyByte_22 : decode cX1_setKeyByte 22 = .ok (.if_icmp .ne 5, 3) := by decide +kernel
theorem dX1_setKeyByte_25 : decode cX1_setKeyByte 25 = .ok (.iconst 0, 1) := by decide +kernel
theorem dX1_setKeyByte_26 : decode cX1_setKeyByte 26 = .ok (.ireturn, 1) := by decide +kernel
theorem dX1_setKeyByte_27 : decode cX1_setKeyByte 27 = .ok (.aload_n 0, 1) := by decide +kernel
theorem dX1_setKeyByte_28 : decode cX1_setKeyByte 28 = .ok (.getfield 9, 3) := by decide +kernel
theorem dX1_setKeyByte_31 : decode cX1_setKeyByte 31 = .ok (.iload_n 1, 1) := by decide +kernel
theorem dX1_setKeyByte_32 : decode cX1_setKeyByte 32 = .ok (.iload_n 2, 1) := by decide +kernel
theorem dX1_setKeyByte_33 : decode cX1_setKeyByte 33 = .ok (.iastore, 1) := by decide +kernel
theorem dX1_setKeyByte_34 : decode cX1_setKeyByte 34 = .ok (.iconst 1, 1) := by decide +kernel
theorem dX1_setKeyByte_35 : decode cX1_setKeyByte 35 = .ok (.ireturn, 1) := by decide +kernel
set_option maxRecDepth 20000 in
theorem ggX1_start_X0_begin : GoodIn wsX1_start wsX0_begin := goodIn_r _ [10, 11, 12, 13, 14, 15, 16, 17, 9, 18, 19, 20, 52, 53, 54, 55, 56] (by decide +kernel) (by decide +kernel)
set_option maxRecDepth 20000 in
theorem gX1_start_X0_begin : GoodIn wsX1_start (wsV RX1 34 RX0 yX0_begin wsX0_begin) := goodIn_app (goodIn_of _ (by decide +kernel)) ggX1_start_X0_begin
set_option maxRecDepth 20000 in
theorem ggX1_start_X0_addKey : GoodIn wsX1_start wsX0_addKey := goodIn_r _ [24, 20, 25, 14, 26, 27, 28, 9, 29, 19, 30, 31, 32, 33, 34, 11, 12, 35, 36, 37, 38, 39, 40, 41, 42, 43, 44, 45, 46, 15, 16, 17, 18, 52, 53, 54, 55, 56] (by decide +kernel) (by decide +kernel)
set_option maxRecDepth 20000 in
theorem gX1_start_X0_addKey : GoodIn wsX1_start (wsV RX1 38 RX0 yX0_addKey wsX0_addKey) := goodIn_app (goodIn_of _ (by decide +kernel)) ggX1_start_X0_addKey
theorem dX1_start_0 : decode cX1_start 0 = .ok (.aload_n 0, 1) := by decide +kernel
theorem dX1_start_1 : decode cX1_start 1 = .ok (.getfield 20, 3) := by decide +kernel
theorem dX1_start_4 : decode cX1_start 4 = .ok (.ifCond .eq 24, 3) := by decide +kernel
theorem dX1_start_7 : decode cX1_start 7 = .ok (.iload_n 1, 1) := by decide +kernel
theorem dX1_start_8 : decode cX1_start 8 = .ok (.iconst 1, 1) := by decide +kernel
theorem dX1_start_9 : decode cX1_start 9 = .ok (.if_icmp .lt 19, 3) := by decide +kernel
theorem dX1_start_12 : decode cX1_start 12 = .ok (.iload_n 1, 1) := by decide +kernel
theorem dX1_start_13 : decode cX1_start 13 = .ok (.bipush 32, 2) := by decide +kernel
theorem dX1_start_15 : decode cX1_start 15 = .ok (.if_icmp .gt 13, 3) := by decide +kernel
theorem dX1_start_18 : decode cX1_start 18 = .ok (.iload_n 2, 1) := by decide +kernel
theorem dX1_start_19 : decode cX1_start 19 = .ok (.ifCond .lt 9, 3) := by decide +kernel
theorem dX1_start_22 : decode cX1_start 22 = .ok (.iload_n 2, 1) := by decide +kernel
theorem dX1_start_23 : decode cX1_start 23 = .ok (.bipush 32, 2) := by decide +kernel
theorem dX1_start_25 : decode cX1_start 25 = .ok (.if_icmp .le 5, 3) := by decide +kernel
theorem dX1_start_28 : decode cX1_start 28 = .ok (.iconst 0, 1) := by decide +kernel
theorem dX1_start_29 : decode cX1_start 29 = .ok (.ireturn, 1) := by decide +kernel
theorem dX1_start_30 : decode cX1_start 30 = .ok (.aload_n 0, 1) := by decide +kernel
theorem dX1_start_31 : decode cX1_start 31 = .ok (.getfield 16, 3) := by decide +kernel
theorem dX1_start_34 : decode cX1_start 34 = .ok (.iload_n 1, 1) := by decide +kernel
theorem dX1_start_35 : decode cX1_start 35 = .ok (.iload_n 2, 1) := by decide +kernel
theorem dX1_start_36 : decode cX1_start 36 = .ok (.invokevirtual 34, 3) := by decide +kernel
theorem dX1_start_39 : decode cX1_start 39 = .ok (.iload_n 2, 1) := by decide +kernel
theorem dX1_start_40 : decode cX1_start 40 = .ok (.ifCond .le 15, 3) := by decide +kernel
theorem dX1_start_43 : decode cX1_start 43 = .ok (.aload_n 0, 1) := by decide +kernel
theorem dX1_start_44 : decode cX1_start 44 = .ok (.getfield 16, 3) := by decide +kernel
theorem dX1_start_47 : decode cX1_start 47 = .ok (.aload_n 0, 1) := by decide +kernel
theorem dX1_start_48 : decode cX1_start 48 = .ok (.getfield 9, 3) := by decide +kernel
theorem dX1_start_51 : decode cX1_start 51 = .ok (.iload_n 2, 1) := by decide +kernel
theorem dX1_start_52 : decode cX1_start 52 = .ok (.invokevirtual 38, 3) := by decide +kernel
theorem dX1_start_55 : decode cX1_start 55 = .ok (.aload_n 0, 1) := by decide +kernel
theorem dX1_start_56 : decode cX1_start 56 = .ok (.iconst 2, 1) := by decide +kernel
theorem dX1_start_57 : decode cX1_start 57 = .ok (.putfield 20, 3) := by decide +kernel
theorem dX1_start_60 : decode cX1_start 60 = .ok (.aload_n 0, 1) := by decide +kernel
theorem dX1_start_61 : decode cX1_start 61 = .ok (.iload_n 1, 1) := by decide +kernel
theorem dX1_start_62 : decode cX1_start 62 = .ok (.putfield 24, 3) := by decide +kernel
theorem dX1_start_65 : decode cX1_start 65 = .ok (.aload_n 0, 1) := by decide +kernel
theorem dX1_start_66 : decode cX1_start 66 = .ok (.iconst 0, 1) := by decide +kernel
theorem dX1_start_67 : decode cX1_start 67 = .ok (.putfield 27, 3) := by decide +kernel
theorem dX1_start_70 : decode cX1_start 70 = .ok (.iconst 1, 1) := by decide +kernel
theorem dX1_start_71 : decode cX1_start 71 = .ok (.ireturn, 1) := by decide +kernel
set_option maxRecDepth 20000 in
theorem ggX1_update_X1_isByte : GoodIn wsX1_update wsX1_isByte := goodIn_r _ [5] (by decide +kernel) (by decide +kernel)
set_option maxRecDepth 20000 in
theorem gX1_update_X1_isByte : GoodIn wsX1_update (va_wsS RX1 30 yX1_isByte wsX1_isByte) := goodIn_app (goodIn_of _ (by decide +kernel)) ggX1_update_X1_isByte
set_option maxRecDepth 20000 in
theorem ggX1_update_X1_addToMessage : GoodIn wsX1_update wsX1_addToMessage := goodIn_r _ [9, 10, 11, 12, 13, 14, 15, 16, 17, 18, 19, 20, 21, 22, 23, 24, 25, 26, 27, 28, 29, 30, 31, 32, 33, 34, 35, 36, 37, 38, 39, 40, 41, 42, 43, 44, 45, 46, 47, 48, 49, 50, 51, 52] (by decide +kernel) (by decide +kernel)
set_option maxRecDepth 20000 in
theorem gX1_update_X1_addToMessage : GoodIn wsX1_update (wsV RX1 42 RX1 yX1_addToMessage wsX1_addToMessage) := goodIn_app (goodIn_of _ (by decide +kernel)) ggX1_update_X1_addToMessage
theorem dX1_update_0 : decode cX1_update 0 = .ok (.aload_n 0, 1) := by decide +kernel
theorem dX1_update_1 : decode cX1_update 1 = .ok (.getfield 20, 3) := by decide +kernel
theorem dX1_update_4 : decode cX1_update 4 = .ok (.iconst 2, 1) := by decide +kernel
theorem dX1_update_5 : decode cX1_update 5 = .ok (.if_icmp .ne 10, 3) := by decide +kernel
theorem dX1_update_8 : decode cX1_update 8 = .ok (.iload_n 1, 1) := by decide +kernel
theorem dX1_update_9 : decode cX1_update 9 = .ok (.invokestatic 30, 3) := by decide +kernel
theorem dX1_update_12 : decode cX1_update 12 = .ok (.ifCond .ne 5, 3) := by decide +kernel
theorem dX1_update_15 : decode cX1_update 15 = .ok (.iconst 0, 1) := by decide +kernel
theorem dX1_update_16 : decode cX1_update 16 = .ok (.ireturn, 1) := by decide +kernel
theorem dX1_update_17 : decode cX1_update 17 = .ok (.aload_n 0, 1) := by decide +kernel
theorem dX1_update_18 : decode cX1_update 18 = .ok (.iload_n 1, 1) := by decide +kernel
theorem dX1_update_19 : decode cX1_update 19 = .ok (.invokevirtual 42, 3) := by decide +kernel
theorem dX1_update_22 : decode cX1_update 22 = .ok (.iconst 1, 1) := by decide +kernel
theorem dX1_update_23 : decode cX1_update 23 = .ok (.ireturn, 1) := by decide +kernel
set_option maxRecDepth 20000 in
theorem ggX1_updates_X1_addHighestFirst : GoodIn wsX1_updates wsX1_addHighestFirst := goodIn_r _ [10, 11, 12, 13, 9, 14, 15, 16, 17, 18, 19, 20, 21, 22, 23, 24, 25, 26, 27, 28, 29, 30, 31, 32, 33, 34, 35, 36, 37, 38, 39, 40, 41, 42, 43, 44, 45, 46, 47, 48, 49, 50, 51, 52, 53, 54, 55, 56, 57] (by decide +kernel) (by decide +kernel)
set_option maxRecDepth 20000 in
theorem gX1_updates_X1_addHighestFirst : GoodIn wsX1_updates (wsV RX1 52 RX1 yX1_addHighestFirst wsX1_addHighestFirst) := goodIn_app (goodIn_of _ (by decide +kernel)) ggX1_updates_X1_addHighestFirst
theorem dX1_updates_0 : decode cX1_updates 0 = .ok (.aload_n 0, 1) := by decide +kernel
theorem dX1_updates_1 : decode cX1_updates 1 = .ok (.getfield 20, 3) := by decide +kernel
theorem dX1_updates_4 : decode cX1_updates 4 = .ok (.iconst 2, 1) := by decide +kernel
theorem dX1_updates_5 : decode cX1_updates 5 = .ok (.if_icmp .ne 16, 3) := by decide +kernel
theorem dX1_updates_8 : decode cX1_updates 8 = .ok (.iload 5, 2) := by decide +kernel
theorem dX1_updates_10 : decode cX1_updates 10 = .ok (.iconst 1, 1) := by decide +kernel
theorem dX1_updates_11 : decode cX1_updates 11 = .ok (.if_icmp .lt 10, 3) := by decide +kernel
theorem dX1_updates_14 : decode cX1_updates 14 = .ok (.iload 5, 2) := by decide +kernel
theorem dX1_updates_16 : decode cX1_updates 16 = .ok (.bipush 16, 2) := by decide +kernel
theorem dX1_updates_18 : decode cX1_updates 18 = .ok (.if_icmp .le 5, 3) := by decide +kernel
theorem dX1_updates_21 : decode cX1_updates 21 = .ok (.iconst 0, 1) := by decide +kernel
theorem dX1_updates_22 : decode cX1_updates 22 = .ok (.ireturn, 1) := by decide +kernel
theorem dX1_updates_23 : decode cX1_updates 23 = .ok (.aload_n 0, 1) := by decide +kernel
theorem dX1_updates_24 : decode cX1_updates 24 = .ok (.iload_n 1, 1) := by decide +kernel
theorem dX1_updates_25 : decode cX1_updates 25 = .ok (.iload 5, 2) := by decide +kernel
theorem dX1_updates_27 : decode cX1_updates 27 = .ok (.iconst 4, 1) := by decide +kernel
theorem dX1_updates_28 : decode cX1_updates 28 = .ok (.invokestatic 46, 3) := by decide +kernel
theorem dX1_updates_31 : decode cX1_updates 31 = .ok (.invokevirtual 52, 3) := by decide +kernel
theorem dX1_updates_34 : decode cX1_updates 34 = .ok (.aload_n 0, 1) := by decide +kernel
theorem dX1_updates_35 : decode cX1_updates 35 = .ok (.iload_n 2, 1) := by decide +kernel
theorem dX1_updates_36 : decode cX1_updates 36 = .ok (.iload 5, 2) := by decide +kernel
theorem dX1_updates_38 : decode cX1_updates 38 = .ok (.iconst 4, 1) := by decide +kernel
theorem dX1_updates_39 : decode cX1_updates 39 = .ok (.isub, 1) := by decide +kernel
theorem dX1_updates_40 : decode cX1_updates 40 = .ok (.iconst 4, 1) := by decide +kernel
theorem dX1_updates_41 : decode cX1_updates 41 = .ok (.invokestatic 46, 3) := by decide +kernel
theorem dX1_updates_44 : decode cX1_updates 44 = .ok (.invokevirtual 52, 3) := by decide +kernel
theorem dX1_updates_47 : decode cX1_updates 47 = .ok (.aload_n 0, 1) := by decide +kernel
theorem dX1_updates_48 : decode cX1_updates 48 = .ok (.iload_n 3, 1) := by decide +kernel
theorem dX1_updates_49 : decode cX1_updates 49 = .ok (.iload 5, 2) := by decide +kernel
theorem dX1_updates_51 : decode cX1_updates 51 = .ok (.bipush 8, 2) := by decide +kernel
theorem dX1_updates_53 : decode cX1_updates 53 = .ok (.isub, 1) := by decide +kernel
theorem dX1_updates_54 : decode cX1_updates 54 = .ok (.iconst 4, 1) := by decide +kernel
theorem dX1_updates_55 : decode cX1_updates 55 = .ok (.invokestatic 46, 3) := by decide +kernel
theorem dX1_updates_58 : decode cX1_updates 58 = .ok (.invokevirtual 52, 3) := by decide +kernel
theorem dX1_updates_61 : decode cX1_updates 61 = .ok (.aload_n 0, 1) := by decide +kernel
theorem dX1_updates_62 : decode cX1_updates 62 = .ok (.iload 4, 2) := by decide +kernel
theorem dX1_updates_64 : decode cX1_updates 64 = .ok (.iload 5, 2) := by decide +kernel
theorem dX1_updates_66 : decode cX1_updates 66 = .ok (.bipush 12, 2) := by decide +kernel
theorem dX1_updates_68 : decode cX1_updates 68 = .ok (.isub, 1) := by decide +kernel
theorem dX1_updates_69 : decode cX1_updates 69 = .ok (.iconst 4, 1) := by decide +kernel
theorem dX1_updates_70 : decode cX1_updates 70 = .ok (.invokestatic 46, 3) := by decide +kernel
theorem dX1_updates_73 : decode cX1_updates 73 = .ok (.invokevirtual 52, 3) := by decide +kernel
theorem dX1_updates_76 : decode cX1_updates 76 = .ok (.iconst 1, 1) := by decide +kernel
theorem dX1_updates_77 : decode cX1_updates 77 = .ok (.ireturn, 1) := by decide +kernel
set_option maxRecDepth 20000 in
theorem ggX1_fill_X1_isByte : GoodIn wsX1_fill wsX1_isByte := goodIn_r _ [5] (by decide +kernel) (by decide +kernel)
set_option maxRecDepth 20000 in
theorem gX1_fill_X1_isByte : GoodIn wsX1_fill (va_wsS RX1 30 yX1_isByte wsX1_isByte) := goodIn_app (goodIn_of _ (by decide +kernel)) ggX1_fill_X1_isByte
set_option maxRecDepth 20000 in
theorem ggX1_fill_X1_addToMessage : GoodIn wsX1_fill wsX1_addToMessage := goodIn_r _ [9, 10, 11, 12, 13, 14, 15, 16, 17, 18, 19, 20, 21, 22, 23, 24, 25, 26, 27, 28, 29, 30, 31, 32, 33, 34, 35, 36, 37, 38, 39, 40, 41, 42, 43, 44, 45, 46, 47, 48, 49, 50, 51, 52] (by decide +kernel) (by decide +kernel)
set_option maxRecDepth 20000 in
theorem gX1_fill_X1_addToMessage : GoodIn wsX1_fill (wsV RX1 42 RX1 yX1_addToMessage wsX1_addToMessage) := goodIn_app (goodIn_of _ (by decide +kernel)) ggX1_fill_X1_addToMessage
theorem dX1_fill_0 : decode cX1_fill 0 = .ok (.aload_n 0, 1) := by decide +kernel
theorem dX1_fill_1 : decode cX1_fill 1 = .ok (.getfield 20, 3) := by decide +kernel
theorem dX1_fill_4 : decode cX1_fill 4 = .ok (.iconst 2, 1) := by decide +kernel
theorem dX1_fill_5 : decode cX1_fill 5 = .ok (.if_icmp .ne 21, 3) := by decide +kernel
theorem dX1_fill_8 : decode cX1_fill 8 = .ok (.iload_n 1, 1) := by decide +kernel
theorem dX1_fill_9 : decode cX1_fill 9 = .ok (.invokestatic 30, 3) := by decide +kernel
theorem dX1_fill_12 : decode cX1_fill 12 = .ok (.ifCond .eq 14, 3) := by decide +kernel
theorem dX1_fill_15 : decode cX1_fill 15 = .ok (.iload_n 2, 1) := by decide +kernel
theorem dX1_fill_16 : decode cX1_fill 16 = .ok (.ifCond .lt 10, 3) := by decide +kernel
theorem dX1_fill_19 : decode cX1_fill 19 = .ok (.iload_n 2, 1) := by decide +kernel
theorem dX1_fill_20 : decode cX1_fill 20 = .ok (.sipush 10000, 3) := by decide +kernel
theorem dX1_fill_23 : decode cX1_fill 23 = .ok (.if_icmp .le 5, 3) := by decide +kernel
theorem dX1_fill_26 : decode cX1_fill 26 = .ok (.iconst 0, 1) := by decide +kernel
theorem dX1_fill_27 : decode cX1_fill 27 = .ok (.ireturn, 1) := by decide +kernel
theorem dX1_fill_28 : decode cX1_fill 28 = .ok (.iconst 0, 1) := by decide +kernel
theorem dX1_fill_29 : decode cX1_fill 29 = .ok (.istore_n 3, 1) := by decide +kernel
theorem dX1_fill_30 : decode cX1_fill 30 = .ok (.iload_n 3, 1) := by decide +kernel
theorem dX1_fill_31 : decode cX1_fill 31 = .ok (.iload_n 2, 1) := by decide +kernel
theorem dX1_fill_32 : decode cX1_fill 32 = .ok (.if_icmp .ge 14, 3) := by decide +kernel
theorem dX1_fill_35 : decode cX1_fill 35 = .ok (.aload_n 0, 1) := by decide +kernel
theorem dX1_fill_36 : decode cX1_fill 36 = .ok (.iload_n 1, 1) := by decide +kernel
theorem dX1_fill_37 : decode cX1_fill 37 = .ok (.invokevirtual 42, 3) := by decide +kernel
theorem dX1_fill_40 : decode cX1_fill 40 = .ok (.iinc 3 1, 3) := by decide +kernel
theorem dX1_fill_43 : decode cX1_fill 43 = .ok (.goto (-13), 3) := by decide +kernel
theorem dX1_fill_46 : decode cX1_fill 46 = .ok (.iconst 1, 1) := by decide +kernel
theorem dX1_fill_47 : decode cX1_fill 47 = .ok (.ireturn, 1) := by decide +kernel
set_option maxRecDepth 20000 in
theorem ggX1_finish_X0_mixLast : GoodIn wsX1_finish wsX0_mixLast := goodIn_r _ [7, 8, 9, 10, 6, 11, 12, 13, 14, 15, 16, 17, 18, 19, 20, 21, 22, 23, 24, 25, 26, 27, 28, 34, 35, 36, 37, 38] (by decide +kernel) (by decide +kernel)
set_option maxRecDepth 20000 in
theorem gX1_finish_X0_mixLast : GoodIn wsX1_finish (wsV RX1 55 RX0 yX0_mixLast wsX0_mixLast) := goodIn_app (goodIn_of _ (by decide +kernel)) ggX1_finish_X0_mixLast
theorem dX1_finish_0 : decode cX1_finish 0 = .ok (.aload_n 0, 1) := by decide +kernel
theorem dX1_finish_1 : decode cX1_finish 1 = .ok (.getfield 20, 3) := by decide +kernel
theorem dX1_finish_4 : decode cX1_finish 4 = .ok (.iconst 2, 1) := by decide +kernel
theorem dX1_finish_5 : decode cX1_finish 5 = .ok (.if_icmp .eq 5, 3) := by decide +kernel
theorem dX1_finish_8 : decode cX1_finish 8 = .ok (.iconst 0, 1) := by decide +kernel
theorem dX1_finish_9 : decode cX1_finish 9 = .ok (.ireturn, 1) := by decide +kernel
theorem dX1_finish_10 : decode cX1_finish 10 = .ok (.aload_n 0, 1) := by decide +kernel
theorem dX1_finish_11 : decode cX1_finish 11 = .ok (.getfield 16, 3) := by decide +kernel
theorem dX1_finish_14 : decode cX1_finish 14 = .ok (.invokevirtual 55, 3) := by decide +kernel
theorem dX1_finish_17 : decode cX1_finish 17 = .ok (.aload_n 0, 1) := by decide +kernel
theorem dX1_finish_18 : decode cX1_finish 18 = .ok (.iconst 3, 1) := by decide +kernel
theorem dX1_finish_19 : decode cX1_finish 19 = .ok (.putfield 20, 3) := by decide +kernel
theorem dX1_finish_22 : decode cX1_finish 22 = .ok (.iconst 1, 1) := by decide +kernel
theorem dX1_finish_23 : decode cX1_finish 23 = .ok (.ireturn, 1) := by decide +kernel
set_option maxRecDepth 20000 in
theorem ggX1_out_X0_stateByte : GoodIn wsX1_out wsX0_stateByte := goodIn_r _ [8, 9, 15, 16, 17, 18, 19] (by decide +kernel) (by decide +kernel)
set_option maxRecDepth 20000 in
theorem gX1_out_X0_stateByte : GoodIn wsX1_out (wsV RX1 58 RX0 yX0_stateByte wsX0_stateByte) := goodIn_app (goodIn_of _ (by decide +kernel)) ggX1_out_X0_stateByte
theorem dX1_out_0 : decode cX1_out 0 = .ok (.aload_n 0, 1) := by decide +kernel
theorem dX1_out_1 : decode cX1_out 1 = .ok (.getfield 20, 3) := by decide +kernel
theorem dX1_out_4 : decode cX1_out 4 = .ok (.iconst 3, 1) := by decide +kernel
theorem dX1_out_5 : decode cX1_out 5 = .ok (.if_icmp .ne 15, 3) := by decide +kernel
theorem dX1_out_8 : decode cX1_out 8 = .ok (.iload_n 1, 1) := by decide +kernel
theorem dX1_out_9 : decode cX1_out 9 = .ok (.ifCond .lt 11, 3) := by decide +kernel
theorem dX1_out_12 : decode cX1_out 12 = .ok (.iload_n 1, 1) := by decide +kernel
theorem dX1_out_13 : decode cX1_out 13 = .ok (.aload_n 0, 1) := by decide +kernel
theorem dX1_out_14 : decode cX1_out 14 = .ok (.getfield 24, 3) := by decide +kernel
theorem dX1_out_17 : decode cX1_out 17 = .ok (.if_icmp .lt 5, 3) := by decide +kernel
theorem dX1_out_20 : decode cX1_out 20 = .ok (.iconst (-1), 1) := by decide +kernel
theorem dX1_out_21 : decode cX1_out 21 = .ok (.ireturn, 1) := by decide +kernel
theorem dX1_out_22 : decode cX1_out 22 = .ok (.aload_n 0, 1) := by decide +kernel
theorem dX1_out_23 : decode cX1_out 23 = .ok (.getfield 16, 3) := by decide +kernel
theorem dX1_out_26 : decode cX1_out 26 = .ok (.iload_n 1, 1) := by decide +kernel
theorem dX1_out_27 : decode cX1_out 27 = .ok (.invokevirtual 58, 3) := by decide +kernel
theorem dX1_out_30 : decode cX1_out 30 = .ok (.ireturn, 1) := by decide +kernel
set_option maxRecDepth 20000 in
theorem ggX1_length_X1_hasMessage : GoodIn wsX1_length wsX1_hasMessage := goodIn_r _ [6, 7, 8, 9, 10, 11, 12] (by decide +kernel) (by decide +kernel)
set_option maxRecDepth 20000 in
theorem gX1_length_X1_hasMessage : GoodIn wsX1_length (wsV RX1 62 RX1 yX1_hasMessage wsX1_hasMessage) := goodIn_app (goodIn_of _ (by decide +kernel)) ggX1_length_X1_hasMessage
theorem dX1_length_0 : decode cX1_length 0 = .ok (.aload_n 0, 1) := by decide +kernel
theorem dX1_length_1 : decode cX1_length 1 = .ok (.invokevirtual 62, 3) := by decide +kernel
theorem dX1_length_4 : decode cX1_length 4 = .ok (.ifCond .eq 10, 3) := by decide +kernel
theorem dX1_length_7 : decode cX1_length 7 = .ok (.aload_n 0, 1) := by decide +kernel
theorem dX1_length_8 : decode cX1_length 8 = .ok (.getfield 27, 3) := by decide +kernel
theorem dX1_length_11 : decode cX1_length 11 = .ok (.goto 4, 3) := by decide +kernel
theorem dX1_length_14 : decode cX1_length 14 = .ok (.iconst (-1), 1) := by decide +kernel
theorem dX1_length_15 : decode cX1_length 15 = .ok (.ireturn, 1) := by decide +kernel
set_option maxRecDepth 20000 in
theorem ggX1_word_X1_hasMessage : GoodIn wsX1_word wsX1_hasMessage := goodIn_r _ [6, 7, 14, 15, 16, 17, 18] (by decide +kernel) (by decide +kernel)
set_option maxRecDepth 20000 in
theorem gX1_word_X1_hasMessage : GoodIn wsX1_word (wsV RX1 62 RX1 yX1_hasMessage wsX1_hasMessage) := goodIn_app (goodIn_of _ (by decide +kernel)) ggX1_word_X1_hasMessage
set_option maxRecDepth 20000 in
theorem ggX1_word_X0_stateWord : GoodIn wsX1_word wsX0_stateWord := goodIn_r _ [12, 13, 19, 20, 21, 22, 23] (by decide +kernel) (by decide +kernel)
set_option maxRecDepth 20000 in
theorem gX1_word_X0_stateWord : GoodIn wsX1_word (wsV RX1 66 RX0 yX0_stateWord wsX0_stateWord) := goodIn_app (goodIn_of _ (by decide +kernel)) ggX1_word_X0_stateWord
theorem dX1_word_0 : decode cX1_word 0 = .ok (.aload_n 0, 1) := by decide +kernel
theorem dX1_word_1 : decode cX1_word 1 = .ok (.invokevirtual 62, 3) := by decide +kernel
theorem dX1_word_4 : decode cX1_word 4 = .ok (.ifCond .eq 13, 3) := by decide +kernel
theorem dX1_word_7 : decode cX1_word 7 = .ok (.iload_n 1, 1) := by decide +kernel
theorem dX1_word_8 : decode cX1_word 8 = .ok (.ifCond .lt 9, 3) := by decide +kernel
theorem dX1_word_11 : decode cX1_word 11 = .ok (.iload_n 1, 1) := by decide +kernel
theorem dX1_word_12 : decode cX1_word 12 = .ok (.bipush 8, 2) := by decide +kernel
theorem dX1_word_14 : decode cX1_word 14 = .ok (.if_icmp .lt 5, 3) := by decide +kernel
theorem dX1_word_17 : decode cX1_word 17 = .ok (.iconst 0, 1) := by decide +kernel
theorem dX1_word_18 : decode cX1_word 18 = .ok (.ireturn, 1) := by decide +kernel
theorem dX1_word_19 : decode cX1_word 19 = .ok (.aload_n 0, 1) := by decide +kernel
theorem dX1_word_20 : decode cX1_word 20 = .ok (.getfield 16, 3) := by decide +kernel
theorem dX1_word_23 : decode cX1_word 23 = .ok (.iload_n 1, 1) := by decide +kernel
theorem dX1_word_24 : decode cX1_word 24 = .ok (.invokevirtual 66, 3) := by decide +kernel
theorem dX1_word_27 : decode cX1_word 27 = .ok (.ireturn, 1) := by decide +kernel
theorem dX1_hasMessage_0 : decode cX1_hasMessage 0 = .ok (.aload_n 0, 1) := by decide +kernel
theorem dX1_hasMessage_1 : decode cX1_hasMessage 1 = .ok (.getfield 20, 3) := by decide +kernel
theorem dX1_hasMessage_4 : decode cX1_hasMessage 4 = .ok (.iconst 2, 1) := by decide +kernel
theorem dX1_hasMessage_5 : decode cX1_hasMessage 5 = .ok (.if_icmp .eq 11, 3) := by decide +kernel
theorem dX1_hasMessage_8 : decode cX1_hasMessage 8 = .ok (.aload_n 0, 1) := by decide +kernel
theorem dX1_hasMessage_9 : decode cX1_hasMessage 9 = .ok (.getfield 20, 3) := by decide +kernel
theorem dX1_hasMessage_12 : decode cX1_hasMessage 12 = .ok (.iconst 3, 1) := by decide +kernel
theorem dX1_hasMessage_13 : decode cX1_hasMessage 13 = .ok (.if_icmp .ne 7, 3) := by decide +kernel
theorem dX1_hasMessage_16 : decode cX1_hasMessage 16 = .ok (.iconst 1, 1) := by decide +kernel
theorem dX1_hasMessage_17 : decode cX1_hasMessage 17 = .ok (.goto 4, 3) := by decide +kernel
theorem dX1_hasMessage_20 : decode cX1_hasMessage 20 = .ok (.iconst 0, 1) := by decide +kernel
theorem dX1_hasMessage_21 : decode cX1_hasMessage 21 = .ok (.ireturn, 1) := by decide +kernel
set_option maxRecDepth 20000 in
theorem ggX1_addToMessage_X0_addByte : GoodIn wsX1_addToMessage wsX0_addByte := goodIn_r _ [7, 8, 9, 10, 11, 12, 13, 6, 14, 15, 16, 17, 18, 19, 20, 21, 22, 23, 24, 25, 26, 27, 28, 29, 30, 31, 32, 33, 39, 40, 41, 42, 43] (by decide +kernel) (by decide +kernel)
set_option maxRecDepth 20000 in
theorem gX1_addToMessage_X0_addByte : GoodIn wsX1_addToMessage (wsV RX1 69 RX0 yX0_addByte wsX0_addByte) := goodIn_app (goodIn_of _ (by decide +kernel)) ggX1_addToMessage_X0_addByte
theorem dX1_addToMessage_0 : decode cX1_addToMessage 0 = .ok (.aload_n 0, 1) := by decide +kernel
theorem dX1_addToMessage_1 : decode cX1_addToMessage 1 = .ok (.getfield 16, 3) := by decide +kernel
theorem dX1_addToMessage_4 : decode cX1_addToMessage 4 = .ok (.iload_n 1, 1) := by decide +kernel
theorem dX1_addToMessage_5 : decode cX1_addToMessage 5 = .ok (.invokevirtual 69, 3) := by decide +kernel
theorem dX1_addToMessage_8 : decode cX1_addToMessage 8 = .ok (.aload_n 0, 1) := by decide +kernel
theorem dX1_addToMessage_9 : decode cX1_addToMessage 9 = .ok (.dup, 1) := by decide +kernel
theorem dX1_addToMessage_10 : decode cX1_addToMessage 10 = .ok (.getfield 27, 3) := by decide +kernel
theorem dX1_addToMessage_13 : decode cX1_addToMessage 13 = .ok (.iconst 1, 1) := by decide +kernel
theorem dX1_addToMessage_14 : decode cX1_addToMessage 14 = .ok (.iadd, 1) := by decide +kernel
theorem dX1_addToMessage_15 : decode cX1_addToMessage 15 = .ok (.putfield 27, 3) := by decide +kernel
theorem dX1_addToMessage_18 : decode cX1_addToMessage 18 = .ok (.return_, 1) := by decide +kernel
set_option maxRecDepth 20000 in
theorem ggX1_addHighestFirst_X1_addToMessage : GoodIn wsX1_addHighestFirst wsX1_addToMessage := goodIn_r _ [5, 6, 7, 8, 9, 10, 11, 12, 13, 14, 15, 16, 17, 18, 19, 20, 21, 22, 23, 24, 25, 26, 27, 28, 29, 30, 31, 32, 33, 34, 35, 36, 37, 38, 39, 40, 41, 42, 43, 44, 45, 46, 47, 48] (by decide +kernel) (by decide +kernel)
set_option maxRecDepth 20000 in
theorem gX1_addHighestFirst_X1_addToMessage : GoodIn wsX1_addHighestFirst (wsV RX1 42 RX1 yX1_addToMessage wsX1_addToMessage) := goodIn_app (goodIn_of _ (by decide +kernel)) ggX1_addHighestFirst_X1_addToMessage
theorem dX1_addHighestFirst_0 : decode cX1_addHighestFirst 0 = .ok (.iconst 0, 1) := by decide +kernel
theorem dX1_addHighestFirst_1 : decode cX1_addHighestFirst 1 = .ok (.istore_n 3, 1) := by decide +kernel
theorem dX1_addHighestFirst_2 : decode cX1_addHighestFirst 2 = .ok (.iload_n 3, 1) := by decide +kernel
theorem dX1_addHighestFirst_3 : decode cX1_addHighestFirst 3 = .ok (.iload_n 2, 1) := by decide +kernel
theorem dX1_addHighestFirst_4 : decode cX1_addHighestFirst 4 = .ok (.if_icmp .ge 26, 3) := by decide +kernel
theorem dX1_addHighestFirst_7 : decode cX1_addHighestFirst 7 = .ok (.aload_n 0, 1) := by decide +kernel
theorem dX1_addHighestFirst_8 : decode cX1_addHighestFirst 8 = .ok (.iload_n 1, 1) := by decide +kernel
theorem dX1_addHighestFirst_9 : decode cX1_addHighestFirst 9 = .ok (.bipush 24, 2) := by decide +kernel
theorem dX1_addHighestFirst_11 : decode cX1_addHighestFirst 11 = .ok (.bipush 8, 2) := by decide +kernel
theorem dX1_addHighestFirst_13 : decode cX1_addHighestFirst 13 = .ok (.iload_n 3, 1) := by decide +kernel
theorem dX1_addHighestFirst_14 : decode cX1_addHighestFirst 14 = .ok (.imul, 1) := by decide +kernel
theorem dX1_addHighestFirst_15 : decode cX1_addHighestFirst 15 = .ok (.isub, 1) := by decide +kernel
theorem dX1_addHighestFirst_16 : decode cX1_addHighestFirst 16 = .ok (.iushr, 1) := by decide +kernel
theorem dX1_addHighestFirst_17 : decode cX1_addHighestFirst 17 = .ok (.sipush 255, 3) := by decide +kernel
theorem dX1_addHighestFirst_20 : decode cX1_addHighestFirst 20 = .ok (.iand, 1) := by decide +kernel
theorem dX1_addHighestFirst_21 : decode cX1_addHighestFirst 21 = .ok (.invokevirtual 42, 3) := by decide +kernel
theorem dX1_addHighestFirst_24 : decode cX1_addHighestFirst 24 = .ok (.iinc 3 1, 3) := by decide +kernel
theorem dX1_addHighestFirst_27 : decode cX1_addHighestFirst 27 = .ok (.goto (-25), 3) := by decide +kernel
theorem dX1_addHighestFirst_30 : decode cX1_addHighestFirst 30 = .ok (.return_, 1) := by decide +kernel
theorem dX1_isByte_0 : decode cX1_isByte 0 = .ok (.iload_n 0, 1) := by decide +kernel
theorem dX1_isByte_1 : decode cX1_isByte 1 = .ok (.ifCond .lt 14, 3) := by decide +kernel
theorem dX1_isByte_4 : decode cX1_isByte 4 = .ok (.iload_n 0, 1) := by decide +kernel
theorem dX1_isByte_5 : decode cX1_isByte 5 = .ok (.sipush 255, 3) := by decide +kernel
theorem dX1_isByte_8 : decode cX1_isByte 8 = .ok (.if_icmp .gt 7, 3) := by decide +kernel
theorem dX1_isByte_11 : decode cX1_isByte 11 = .ok (.iconst 1, 1) := by decide +kernel
theorem dX1_isByte_12 : decode cX1_isByte 12 = .ok (.goto 4, 3) := by decide +kernel
theorem dX1_isByte_15 : decode cX1_isByte 15 = .ok (.iconst 0, 1) := by decide +kernel
theorem dX1_isByte_16 : decode cX1_isByte 16 = .ok (.ireturn, 1) := by decide +kernel
