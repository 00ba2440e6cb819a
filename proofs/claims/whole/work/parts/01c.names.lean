theorem dX0_init_0 : decode cX0_init 0 = .ok (.aload_n 0, 1) := by decide +kernel
theorem dX0_init_1 : decode cX0_init 1 = .ok (.invokespecial 1, 3) := by decide +kernel
theorem dX0_init_4 : decode cX0_init 4 = .ok (.aload_n 0, 1) := by decide +kernel
theorem dX0_init_5 : decode cX0_init 5 = .ok (.bipush 8, 2) := by decide +kernel
theorem dX0_init_7 : decode cX0_init 7 = .ok (.newarray .int, 2) := by decide +kernel
theorem dX0_init_9 : decode cX0_init 9 = .ok (.putfield 9, 3) := by decide +kernel
theorem dX0_init_12 : decode cX0_init 12 = .ok (.aload_n 0, 1) := by decide +kernel
theorem dX0_init_13 : decode cX0_init 13 = .ok (.bipush 16, 2) := by decide +kernel
theorem dX0_init_15 : decode cX0_init 15 = .ok (.newarray .int, 2) := by decide +kernel
theorem dX0_init_17 : decode cX0_init 17 = .ok (.putfield 13, 3) := by decide +kernel
theorem dX0_init_20 : decode cX0_init 20 = .ok (.aload_n 0, 1) := by decide +kernel
theorem dX0_init_21 : decode cX0_init 21 = .ok (.bipush 16, 2) := by decide +kernel
theorem dX0_init_23 : decode cX0_init 23 = .ok (.newarray .int, 2) := by decide +kernel
theorem dX0_init_25 : decode cX0_init 25 = .ok (.putfield 16, 3) := by decide +kernel
theorem dX0_init_28 : decode cX0_init 28 = .ok (.aload_n 0, 1) := by decide +kernel
theorem dX0_init_29 : decode cX0_init 29 = .ok (.iconst 0, 1) := by decide +kernel
theorem dX0_init_30 : decode cX0_init 30 = .ok (.putfield 19, 3) := by decide +kernel
theorem dX0_init_33 : decode cX0_init 33 = .ok (.aload_n 0, 1) := by decide +kernel
theorem dX0_init_34 : decode cX0_init 34 = .ok (.lconst 0, 1) := by decide +kernel
theorem dX0_init_35 : decode cX0_init 35 = .ok (.putfield 23, 3) := by decide +kernel
theorem dX0_init_38 : decode cX0_init 38 = .ok (.return_, 1) := by decide +kernel
set_option maxRecDepth 20000 in
theorem ggX0_begin_X0_emptyBlock : GoodIn wsX0_begin wsX0_emptyBlock := goodIn_r _ [9, 10, 11, 12, 13, 14, 15, 16] (by decide +kernel) (by decide +kernel)
set_option maxRecDepth 20000 in
theorem gX0_begin_X0_emptyBlock : GoodIn wsX0_begin (wsV RX0 31 RX0 yX0_emptyBlock wsX0_emptyBlock) := goodIn_app (goodIn_of _ (by decide +kernel)) ggX0_begin_X0_emptyBlock
theorem dX0_begin_0 : decode cX0_begin 0 = .ok (.iconst 0, 1) := by decide +kernel
theorem dX0_begin_1 : decode cX0_begin 1 = .ok (.istore_n 3, 1) := by decide +kernel
theorem dX0_begin_2 : decode cX0_begin 2 = .ok (.iload_n 3, 1) := by decide +kernel
theorem dX0_begin_3 : decode cX0_begin 3 = .ok (.bipush 8, 2) := by decide +kernel
theorem dX0_begin_5 : decode cX0_begin 5 = .ok (.if_icmp .ge 20, 3) := by decide +kernel
theorem dX0_begin_8 : decode cX0_begin 8 = .ok (.aload_n 0, 1) := by decide +kernel
theorem dX0_begin_9 : decode cX0_begin 9 = .ok (.getfield 9, 3) := by decide +kernel
theorem dX0_begin_12 : decode cX0_begin 12 = .ok (.iload_n 3, 1) := by decide +kernel
theorem dX0_begin_13 : decode cX0_begin 13 = .ok (.getstatic 27, 3) := by decide +kernel
theorem dX0_begin_16 : decode cX0_begin 16 = .ok (.iload_n 3, 1) := by decide +kernel
theorem dX0_begin_17 : decode cX0_begin 17 = .ok (.iaload, 1) := by decide +kernel
theorem dX0_begin_18 : decode cX0_begin 18 = .ok (.iastore, 1) := by decide +kernel
theorem dX0_begin_19 : decode cX0_begin 19 = .ok (.iinc 3 1, 3) := by decide +kernel
theorem dX0_begin_22 : decode cX0_begin 22 = .ok (.goto (-20), 3) := by decide +kernel
theorem dX0_begin_25 : decode cX0_begin 25 = .ok (.aload_n 0, 1) := by decide +kernel
theorem dX0_begin_26 : decode cX0_begin 26 = .ok (.getfield 9, 3) := by decide +kernel
theorem dX0_begin_29 : decode cX0_begin 29 = .ok (.iconst 0, 1) := by decide +kernel
theorem dX0_begin_30 : decode cX0_begin 30 = .ok (.dup2, 1) := by decide +kernel
theorem dX0_begin_31 : decode cX0_begin 31 = .ok (.iaload, 1) := by decide +kernel
theorem dX0_begin_32 : decode cX0_begin 32 = .ok (.ldc 30, 2) := by decide +kernel
theorem dX0_begin_34 : decode cX0_begin 34 = .ok (.sipush 256, 3) := by decide +kernel
theorem dX0_begin_37 : decode cX0_begin 37 = .ok (.iload_n 2, 1) := by decide +kernel
theorem dX0_begin_38 : decode cX0_begin 38 = .ok (.imul, 1) := by decide +kernel
theorem dX0_begin_39 : decode cX0_begin 39 = .ok (.iadd, 1) := by decide +kernel
theorem dX0_begin_40 : decode cX0_begin 40 = .ok (.iload_n 1, 1) := by decide +kernel
theorem dX0_begin_41 : decode cX0_begin 41 = .ok (.iadd, 1) := by decide +kernel
theorem dX0_begin_42 : decode cX0_begin 42 = .ok (.ixor, 1) := by decide +kernel
theorem dX0_begin_43 : decode cX0_begin 43 = .ok (.iastore, 1) := by decide +kernel
theorem dX0_begin_44 : decode cX0_begin 44 = .ok (.aload_n 0, 1) := by decide +kernel
theorem dX0_begin_45 : decode cX0_begin 45 = .ok (.lconst 0, 1) := by decide +kernel
theorem dX0_begin_46 : decode cX0_begin 46 = .ok (.putfield 23, 3) := by decide +kernel
theorem dX0_begin_49 : decode cX0_begin 49 = .ok (.aload_n 0, 1) := by decide +kernel
theorem dX0_begin_50 : decode cX0_begin 50 = .ok (.invokevirtual 31, 3) := by decide +kernel
theorem dX0_begin_53 : decode cX0_begin 53 = .ok (.return_, 1) := by decide +kernel
set_option maxRecDepth 20000 in
theorem ggX0_addKey_X0_addByte : GoodIn wsX0_addKey wsX0_addByte := goodIn_r _ [8, 1, 9, 3, 10, 11, 12, 7, 13, 14, 15, 16, 17, 18, 19, 20, 21, 22, 23, 24, 25, 26, 27, 28, 29, 30, 31, 32, 33, 34, 35, 36, 37] (by decide +kernel) (by decide +kernel)
set_option maxRecDepth 20000 in
theorem gX0_addKey_X0_addByte : GoodIn wsX0_addKey (wsV RX0 34 RX0 yX0_addByte wsX0_addByte) := goodIn_app (goodIn_of _ (by decide +kernel)) ggX0_addKey_X0_addByte
theorem dX0_addKey_0 : decode cX0_addKey 0 = .ok (.iconst 0, 1) := by decide +kernel
theorem dX0_addKey_1 : decode cX0_addKey 1 = .ok (.istore_n 3, 1) := by decide +kernel
theorem dX0_addKey_2 : decode cX0_addKey 2 = .ok (.iload_n 3, 1) := by decide +kernel
theorem dX0_addKey_3 : decode cX0_addKey 3 = .ok (.iload_n 2, 1) := by decide +kernel
theorem dX0_addKey_4 : decode cX0_addKey 4 = .ok (.if_icmp .ge 22, 3) := by decide +kernel
theorem dX0_addKey_7 : decode cX0_addKey 7 = .ok (.iload_n 3, 1) := by decide +kernel
theorem dX0_addKey_8 : decode cX0_addKey 8 = .ok (.aload_n 1, 1) := by decide +kernel
theorem dX0_addKey_9 : decode cX0_addKey 9 = .ok (.arraylength, 1) := by decide +kernel
theorem dX0_addKey_10 : decode cX0_addKey 10 = .ok (.if_icmp .ge 16, 3) := by decide +kernel
theorem dX0_addKey_13 : decode cX0_addKey 13 = .ok (.aload_n 0, 1) := by decide +kernel
theorem dX0_addKey_14 : decode cX0_addKey 14 = .ok (.aload_n 1, 1) := by decide +kernel
theorem dX0_addKey_15 : decode cX0_addKey 15 = .ok (.iload_n 3, 1) := by decide +kernel
theorem dX0_addKey_16 : decode cX0_addKey 16 = .ok (.iaload, 1) := by decide +kernel
theorem dX0_addKey_17 : decode cX0_addKey 17 = .ok (.invokevirtual 34, 3) := by decide +kernel
theorem dX0_addKey_20 : decode cX0_addKey 20 = .ok (.iinc 3 1, 3) := by decide +kernel
theorem dX0_addKey_23 : decode cX0_addKey 23 = .ok (.goto (-21), 3) := by decide +kernel
theorem dX0_addKey_26 : decode cX0_addKey 26 = .ok (.aload_n 0, 1) := by decide +kernel
theorem dX0_addKey_27 : decode cX0_addKey 27 = .ok (.bipush 64, 2) := by decide +kernel
theorem dX0_addKey_29 : decode cX0_addKey 29 = .ok (.putfield 19, 3) := by decide +kernel
theorem dX0_addKey_32 : decode cX0_addKey 32 = .ok (.aload_n 0, 1) := by decide +kernel
theorem dX0_addKey_33 : decode cX0_addKey 33 = .ok (.ldc2_w 38, 3) := by decide +kernel
theorem dX0_addKey_36 : decode cX0_addKey 36 = .ok (.putfield 23, 3) := by decide +kernel
theorem dX0_addKey_39 : decode cX0_addKey 39 = .ok (.return_, 1) := by decide +kernel
set_option maxRecDepth 20000 in
theorem ggX0_addByte_X0_mix : GoodIn wsX0_addByte wsX0_mix := goodIn_r _ [8, 9, 10, 11, 3, 12, 13, 14, 7, 15, 16, 17, 18, 19, 20, 2, 21, 22, 23, 28, 29, 30, 31, 32] (by decide +kernel) (by decide +kernel)
set_option maxRecDepth 20000 in
theorem gX0_addByte_X0_mix : GoodIn wsX0_addByte (wsV RX0 40 RX0 yX0_mix wsX0_mix) := goodIn_app (goodIn_of _ (by decide +kernel)) ggX0_addByte_X0_mix
set_option maxRecDepth 20000 in
theorem ggX0_addByte_X0_emptyBlock : GoodIn wsX0_addByte wsX0_emptyBlock := goodIn_r _ [27, 2, 1, 28, 29, 30, 31, 32] (by decide +kernel) (by decide +kernel)
set_option maxRecDepth 20000 in
theorem gX0_addByte_X0_emptyBlock : GoodIn wsX0_addByte (wsV RX0 31 RX0 yX0_emptyBlock wsX0_emptyBlock) := goodIn_app (goodIn_of _ (by decide +kernel)) ggX0_addByte_X0_emptyBlock
theorem dX0_addByte_0 : decode cX0_addByte 0 = .ok (.aload_n 0, 1) := by decide +kernel
theorem dX0_addByte_1 : decode cX0_addByte 1 = .ok (.getfield 19, 3) := by decide +kernel
theorem dX0_addByte_4 : decode cX0_addByte 4 = .ok (.bipush 64, 2) := by decide +kernel
theorem dX0_addByte_6 : decode cX0_addByte 6 = .ok (.if_icmp .lt 12, 3) := by decide +kernel
theorem dX0_addByte_9 : decode cX0_addByte 9 = .ok (.aload_n 0, 1) := by decide +kernel
theorem dX0_addByte_10 : decode cX0_addByte 10 = .ok (.iconst 0, 1) := by decide +kernel
theorem dX0_addByte_11 : decode cX0_addByte 11 = .ok (.invokevirtual 40, 3) := by decide +kernel
theorem dX0_addByte_14 : decode cX0_addByte 14 = .ok (.aload_n 0, 1) := by decide +kernel
theorem dX0_addByte_15 : decode cX0_addByte 15 = .ok (.invokevirtual 31, 3) := by decide +kernel
theorem dX0_addByte_18 : decode cX0_addByte 18 = .ok (.aload_n 0, 1) := by decide +kernel
theorem dX0_addByte_19 : decode cX0_addByte 19 = .ok (.getfield 13, 3) := by decide +kernel
theorem dX0_addByte_22 : decode cX0_addByte 22 = .ok (.aload_n 0, 1) := by decide +kernel
theorem dX0_addByte_23 : decode cX0_addByte 23 = .ok (.getfield 19, 3) := by decide +kernel
theorem dX0_addByte_26 : decode cX0_addByte 26 = .ok (.iconst 2, 1) := by decide +kernel
theorem dX0_addByte_27 : decode cX0_addByte 27 = .ok (.ishr, 1) := by decide +kernel
theorem dX0_addByte_28 : decode cX0_addByte 28 = .ok (.dup2, 1) := by decide +kernel
theorem dX0_addByte_29 : decode cX0_addByte 29 = .ok (.iaload, 1) := by decide +kernel
theorem dX0_addByte_30 : decode cX0_addByte 30 = .ok (.iload_n 1, 1) := by decide +kernel
theorem dX0_addByte_31 : decode cX0_addByte 31 = .ok (.bipush 8, 2) := by decide +kernel
theorem dX0_addByte_33 : decode cX0_addByte 33 = .ok (.aload_n 0, 1) := by decide +kernel
theorem dX0_addByte_34 : decode cX0_addByte 34 = .ok (.getfield 19, 3) := by decide +kernel
theorem dX0_addByte_37 : decode cX0_addByte 37 = .ok (.iconst 3, 1) := by decide +kernel
theorem dX0_addByte_38 : decode cX0_addByte 38 = .ok (.iand, 1) := by decide +kernel
theorem dX0_addByte_39 : decode cX0_addByte 39 = .ok (.imul, 1) := by decide +kernel
theorem dX0_addByte_40 : decode cX0_addByte 40 = .ok (.ishl, 1) := by decide +kernel
theorem dX0_addByte_41 : decode cX0_addByte 41 = .ok (.ior, 1) := by decide +kernel
theorem dX0_addByte_42 : decode cX0_addByte 42 = .ok (.iastore, 1) := by decide +kernel
theorem dX0_addByte_43 : decode cX0_addByte 43 = .ok (.aload_n 0, 1) := by decide +kernel
theorem dX0_addByte_44 : decode cX0_addByte 44 = .ok (.dup, 1) := by decide +kernel
theorem dX0_addByte_45 : decode cX0_addByte 45 = .ok (.getfield 19, 3) := by decide +kernel
theorem dX0_addByte_48 : decode cX0_addByte 48 = .ok (.iconst 1, 1) := by decide +kernel
theorem dX0_addByte_49 : decode cX0_addByte 49 = .ok (.iadd, 1) := by decide +kernel
theorem dX0_addByte_50 : decode cX0_addByte 50 = .ok (.putfield 19, 3) := by decide +kernel
theorem dX0_addByte_53 : decode cX0_addByte 53 = .ok (.aload_n 0, 1) := by decide +kernel
theorem dX0_addByte_54 : decode cX0_addByte 54 = .ok (.dup, 1) := by decide +kernel
theorem dX0_addByte_55 : decode cX0_addByte 55 = .ok (.getfield 23, 3) := by decide +kernel
theorem dX0_addByte_58 : decode cX0_addByte 58 = .ok (.lconst 1, 1) := by decide +kernel
theorem dX0_addByte_59 : decode cX0_addByte 59 = .ok (.ladd, 1) := by decide +kernel
theorem dX0_addByte_60 : decode cX0_addByte 60 = .ok (.putfield 23, 3) := by decide +kernel
theorem dX0_addByte_63 : decode cX0_addByte 63 = .ok (.return_, 1) := by decide +kernel
set_option maxRecDepth 20000 in
theorem ggX0_mixLast_X0_mix : GoodIn wsX0_mixLast wsX0_mix := goodIn_r _ [5, 6, 7, 8, 9, 10, 11, 12, 4, 13, 14, 15, 16, 17, 18, 19, 20, 21, 22, 23, 24, 25, 26, 27] (by decide +kernel) (by decide +kernel)
set_option maxRecDepth 20000 in
theorem gX0_mixLast_X0_mix : GoodIn wsX0_mixLast (wsV RX0 40 RX0 yX0_mix wsX0_mix) := goodIn_app (goodIn_of _ (by decide +kernel)) ggX0_mixLast_X0_mix
theorem dX0_mixLast_0 : decode cX0_mixLast 0 = .ok (.aload_n 0, 1) := by decide +kernel
theorem dX0_mixLast_1 : decode cX0_mixLast 1 = .ok (.iconst (-1), 1) := by decide +kernel
theorem dX0_mixLast_2 : decode cX0_mixLast 2 = .ok (.invokevirtual 40, 3) := by decide +kernel
theorem dX0_mixLast_5 : decode cX0_mixLast 5 = .ok (.return_, 1) := by decide +kernel
theorem dX0_stateWord_0 : decode cX0_stateWord 0 = .ok (.aload_n 0, 1) := by decide +kernel
theorem dX0_stateWord_1 : decode cX0_stateWord 1 = .ok (.getfield 9, 3) := by decide +kernel
theorem dX0_stateWord_4 : decode cX0_stateWord 4 = .ok (.iload_n 1, 1) := by decide +kernel
theorem dX0_stateWord_5 : decode cX0_stateWord 5 = .ok (.iaload, 1) := by decide +kernel
theorem dX0_stateWord_6 : decode cX0_stateWord 6 = .ok (.ireturn, 1) := by decide +kernel
theorem dX0_stateByte_0 : decode cX0_stateByte 0 = .ok (.aload_n 0, 1) := by decide +kernel
theorem dX0_stateByte_1 : decode cX0_stateByte 1 = .ok (.getfield 9, 3) := by decide +kernel
theorem dX0_stateByte_4 : decode cX0_stateByte 4 = .ok (.iload_n 1, 1) := by decide +kernel
theorem dX0_stateByte_5 : decode cX0_stateByte 5 = .ok (.iconst 2, 1) := by decide +kernel
theorem dX0_stateByte_6 : decode cX0_stateByte 6 = .ok (.ishr, 1) := by decide +kernel
theorem dX0_stateByte_7 : decode cX0_stateByte 7 = .ok (.iaload, 1) := by decide +kernel
theorem dX0_stateByte_8 : decode cX0_stateByte 8 = .ok (.bipush 8, 2) := by decide +kernel
theorem dX0_stateByte_10 : decode cX0_stateByte 10 = .ok (.iload_n 1, 1) := by decide +kernel
theorem dX0_stateByte_11 : decode cX0_stateByte 11 = .ok (.iconst 3, 1) := by decide +kernel
theorem dX0_stateByte_12 : decode cX0_stateByte 12 = .ok (.iand, 1) := by decide +kernel
theorem dX0_stateByte_13 : decode cX0_stateByte 13 = .ok (.imul, 1) := by decide +kernel
theorem dX0_stateByte_14 : decode cX0_stateByte 14 = .ok (.iushr, 1) := by decide +kernel
theorem dX0_stateByte_15 : decode cX0_stateByte 15 = .ok (.sipush 255, 3) := by decide +kernel
theorem dX0_stateByte_18 : decode cX0_stateByte 18 = .ok (.iand, 1) := by decide +kernel
theorem dX0_stateByte_19 : decode cX0_stateByte 19 = .ok (.ireturn, 1) := by decide +kernel
theorem dX0_emptyBlock_0 : decode cX0_emptyBlock 0 = .ok (.iconst 0, 1) := by decide +kernel
theorem dX0_emptyBlock_1 : decode cX0_emptyBlock 1 = .ok (.istore_n 1, 1) := by decide +kernel
theorem dX0_emptyBlock_2 : decode cX0_emptyBlock 2 = .ok (.iload_n 1, 1) := by decide +kernel
theorem dX0_emptyBlock_3 : decode cX0_emptyBlock 3 = .ok (.bipush 16, 2) := by decide +kernel
theorem dX0_emptyBlock_5 : decode cX0_emptyBlock 5 = .ok (.if_icmp .ge 16, 3) := by decide +kernel
theorem dX0_emptyBlock_8 : decode cX0_emptyBlock 8 = .ok (.aload_n 0, 1) := by decide +kernel
theorem dX0_emptyBlock_9 : decode cX0_emptyBlock 9 = .ok (.getfield 13, 3) := by decide +kernel
theorem dX0_emptyBlock_12 : decode cX0_emptyBlock 12 = .ok (.iload_n 1, 1) := by decide +kernel
theorem dX0_emptyBlock_13 : decode cX0_emptyBlock 13 = .ok (.iconst 0, 1) := by decide +kernel
theorem dX0_emptyBlock_14 : decode cX0_emptyBlock 14 = .ok (.iastore, 1) := by decide +kernel
theorem dX0_emptyBlock_15 : decode cX0_emptyBlock 15 = .ok (.iinc 1 1, 3) := by decide +kernel
theorem dX0_emptyBlock_18 : decode cX0_emptyBlock 18 = .ok (.goto (-16), 3) := by decide +kernel
theorem dX0_emptyBlock_21 : decode cX0_emptyBlock 21 = .ok (.aload_n 0, 1) := by decide +kernel
theorem dX0_emptyBlock_22 : decode cX0_emptyBlock 22 = .ok (.iconst 0, 1) := by decide +kernel
theorem dX0_emptyBlock_23 : decode cX0_emptyBlock 23 = .ok (.putfield 19, 3) := by decide +kernel
theorem dX0_emptyBlock_26 : decode cX0_emptyBlock 26 = .ok (.return_, 1) := by decide +kernel
set_option maxRecDepth 20000 in
theorem ggX0_mix_X0_mixRound : GoodIn wsX0_mix wsX0_mixRound := goodIn_r _ [9, 10, 11, 12, 13, 8, 14, 1, 15, 16, 17, 18, 19, 20, 21, 22, 23] (by decide +kernel) (by decide +kernel)
set_option maxRecDepth 20000 in
theorem gX0_mix_X0_mixRound : GoodIn wsX0_mix (wsV RX0 43 RX0 yX0_mixRound wsX0_mixRound) := goodIn_app (goodIn_of _ (by decide +kernel)) ggX0_mix_X0_mixRound
theorem dX0_mix_0 : decode cX0_mix 0 = .ok (.iconst 0, 1) := by decide +kernel
theorem dX0_mix_1 : decode cX0_mix 1 = .ok (.istore_n 2, 1) := by decide +kernel
theorem dX0_mix_2 : decode cX0_mix 2 = .ok (.iload_n 2, 1) := by decide +kernel
theorem dX0_mix_3 : decode cX0_mix 3 = .ok (.bipush 8, 2) := by decide +kernel
theorem dX0_mix_5 : decode cX0_mix 5 = .ok (.if_icmp .ge 35, 3) := by decide +kernel
theorem dX0_mix_8 : decode cX0_mix 8 = .ok (.aload_n 0, 1) := by decide +kernel
theorem dX0_mix_9 : decode cX0_mix 9 = .ok (.getfield 16, 3) := by decide +kernel
theorem dX0_mix_12 : decode cX0_mix 12 = .ok (.iload_n 2, 1) := by decide +kernel
theorem dX0_mix_13 : decode cX0_mix 13 = .ok (.aload_n 0, 1) := by decide +kernel
theorem dX0_mix_14 : decode cX0_mix 14 = .ok (.getfield 9, 3) := by decide +kernel
theorem dX0_mix_17 : decode cX0_mix 17 = .ok (.iload_n 2, 1) := by decide +kernel
theorem dX0_mix_18 : decode cX0_mix 18 = .ok (.iaload, 1) := by decide +kernel
theorem dX0_mix_19 : decode cX0_mix 19 = .ok (.iastore, 1) := by decide +kernel
theorem dX0_mix_20 : decode cX0_mix 20 = .ok (.aload_n 0, 1) := by decide +kernel
theorem dX0_mix_21 : decode cX0_mix 21 = .ok (.getfield 16, 3) := by decide +kernel
theorem dX0_mix_24 : decode cX0_mix 24 = .ok (.iload_n 2, 1) := by decide +kernel
theorem dX0_mix_25 : decode cX0_mix 25 = .ok (.bipush 8, 2) := by decide +kernel
theorem dX0_mix_27 : decode cX0_mix 27 = .ok (.iadd, 1) := by decide +kernel
theorem dX0_mix_28 : decode cX0_mix 28 = .ok (.getstatic 27, 3) := by decide +kernel
theorem dX0_mix_31 : decode cX0_mix 31 = .ok (.iload_n 2, 1) := by decide +kernel
theorem dX0_mix_32 : decode cX0_mix 32 = .ok (.iaload, 1) := by decide +kernel
theorem dX0_mix_33 : decode cX0_mix 33 = .ok (.iastore, 1) := by decide +kernel
theorem dX0_mix_34 : decode cX0_mix 34 = .ok (.iinc 2 1, 3) := by decide +kernel
theorem dX0_mix_37 : decode cX0_mix 37 = .ok (.goto (-35), 3) := by decide +kernel
theorem dX0_mix_40 : decode cX0_mix 40 = .ok (.aload_n 0, 1) := by decide +kernel
theorem dX0_mix_41 : decode cX0_mix 41 = .ok (.getfield 16, 3) := by decide +kernel
theorem dX0_mix_44 : decode cX0_mix 44 = .ok (.bipush 12, 2) := by decide +kernel
theorem dX0_mix_46 : decode cX0_mix 46 = .ok (.dup2, 1) := by decide +kernel
theorem dX0_mix_47 : decode cX0_mix 47 = .ok (.iaload, 1) := by decide +kernel
theorem dX0_mix_48 : decode cX0_mix 48 = .ok (.aload_n 0, 1) := by decide +kernel
theorem dX0_mix_49 : decode cX0_mix 49 = .ok (.getfield 23, 3) := by decide +kernel
theorem dX0_mix_52 : decode cX0_mix 52 = .ok (.l2i, 1) := by decide +kernel
theorem dX0_mix_53 : decode cX0_mix 53 = .ok (.ixor, 1) := by decide +kernel
theorem dX0_mix_54 : decode cX0_mix 54 = .ok (.iastore, 1) := by decide +kernel
theorem dX0_mix_55 : decode cX0_mix 55 = .ok (.aload_n 0, 1) := by decide +kernel
theorem dX0_mix_56 : decode cX0_mix 56 = .ok (.getfield 16, 3) := by decide +kernel
theorem dX0_mix_59 : decode cX0_mix 59 = .ok (.bipush 13, 2) := by decide +kernel
theorem dX0_mix_61 : decode cX0_mix 61 = .ok (.dup2, 1) := by decide +kernel
theorem dX0_mix_62 : decode cX0_mix 62 = .ok (.iaload, 1) := by decide +kernel
theorem dX0_mix_63 : decode cX0_mix 63 = .ok (.aload_n 0, 1) := by decide +kernel
theorem dX0_mix_64 : decode cX0_mix 64 = .ok (.getfield 23, 3) := by decide +kernel
theorem dX0_mix_67 : decode cX0_mix 67 = .ok (.bipush 32, 2) := by decide +kernel
theorem dX0_mix_69 : decode cX0_mix 69 = .ok (.lushr, 1) := by decide +kernel
theorem dX0_mix_70 : decode cX0_mix 70 = .ok (.l2i, 1) := by decide +kernel
theorem dX0_mix_71 : decode cX0_mix 71 = .ok (.ixor, 1) := by decide +kernel
theorem dX0_mix_72 : decode cX0_mix 72 = .ok (.iastore, 1) := by decide +kernel
theorem dX0_mix_73 : decode cX0_mix 73 = .ok (.aload_n 0, 1) := by decide +kernel
theorem dX0_mix_74 : decode cX0_mix 74 = .ok (.getfield 16, 3) := by decide +kernel
theorem dX0_mix_77 : decode cX0_mix 77 = .ok (.bipush 14, 2) := by decide +kernel
theorem dX0_mix_79 : decode cX0_mix 79 = .ok (.dup2, 1) := by decide +kernel
theorem dX0_mix_80 : decode cX0_mix 80 = .ok (.iaload, 1) := by decide +kernel
theorem dX0_mix_81 : decode cX0_mix 81 = .ok (.iload_n 1, 1) := by decide +kernel
theorem dX0_mix_82 : decode cX0_mix 82 = .ok (.ixor, 1) := by decide +kernel
theorem dX0_mix_83 : decode cX0_mix 83 = .ok (.iastore, 1) := by decide +kernel
theorem dX0_mix_84 : decode cX0_mix 84 = .ok (.iconst 0, 1) := by decide +kernel
theorem dX0_mix_85 : decode cX0_mix 85 = .ok (.istore_n 2, 1) := by decide +kernel
theorem dX0_mix_86 : decode cX0_mix 86 = .ok (.iload_n 2, 1) := by decide +kernel
theorem dX0_mix_87 : decode cX0_mix 87 = .ok (.bipush 10, 2) := by decide +kernel
theorem dX0_mix_89 : decode cX0_mix 89 = .ok (.if_icmp .ge 17, 3) := by decide +kernel
theorem dX0_mix_92 : decode cX0_mix 92 = .ok (.aload_n 0, 1) := by decide +kernel
theorem dX0_mix_93 : decode cX0_mix 93 = .ok (.bipush 16, 2) := by decide +kernel
theorem dX0_mix_95 : decode cX0_mix 95 = .ok (.iload_n 2, 1) := by decide +kernel
theorem dX0_mix_96 : decode cX0_mix 96 = .ok (.imul, 1) := by decide +kernel
theorem dX0_mix_97 : decode cX0_mix 97 = .ok (.invokevirtual 43, 3) := by decide +kernel
theorem dX0_mix_100 : decode cX0_mix 100 = .ok (.iinc 2 1, 3) := by decide +kernel
theorem dX0_mix_103 : decode cX0_mix 103 = .ok (.goto (-17), 3) := by decide +kernel
theorem dX0_mix_106 : decode cX0_mix 106 = .ok (.iconst 0, 1) := by decide +kernel
theorem dX0_mix_107 : decode cX0_mix 107 = .ok (.istore_n 2, 1) := by decide +kernel
theorem dX0_mix_108 : decode cX0_mix 108 = .ok (.iload_n 2, 1) := by decide +kernel
theorem dX0_mix_109 : decode cX0_mix 109 = .ok (.bipush 8, 2) := by decide +kernel
theorem dX0_mix_111 : decode cX0_mix 111 = .ok (.if_icmp .ge 34, 3) := by decide +kernel
theorem dX0_mix_114 : decode cX0_mix 114 = .ok (.aload_n 0, 1) := by decide +kernel
theorem dX0_mix_115 : decode cX0_mix 115 = .ok (.getfield 9, 3) := by decide +kernel
theorem dX0_mix_118 : decode cX0_mix 118 = .ok (.iload_n 2, 1) := by decide +kernel
theorem dX0_mix_119 : decode cX0_mix 119 = .ok (.dup2, 1) := by decide +kernel
theorem dX0_mix_120 : decode cX0_mix 120 = .ok (.iaload, 1) := by decide +kernel
theorem dX0_mix_121 : decode cX0_mix 121 = .ok (.aload_n 0, 1) := by decide +kernel
theorem dX0_mix_122 : decode cX0_mix 122 = .ok (.getfield 16, 3) := by decide +kernel
theorem dX0_mix_125 : decode cX0_mix 125 = .ok (.iload_n 2, 1) := by decide +kernel
theorem dX0_mix_126 : decode cX0_mix 126 = .ok (.iaload, 1) := by decide +kernel
theorem dX0_mix_127 : decode cX0_mix 127 = .ok (.aload_n 0, 1) := by decide +kernel
theorem dX0_mix_128 : decode cX0_mix 128 = .ok (.getfield 16, 3) := by decide +kernel
theorem dX0_mix_131 : decode cX0_mix 131 = .ok (.iload_n 2, 1) := by decide +kernel
theorem dX0_mix_132 : decode cX0_mix 132 = .ok (.bipush 8, 2) := by decide +kernel
theorem dX0_mix_134 : decode cX0_mix 134 = .ok (.iadd, 1) := by decide +kernel
theorem dX0_mix_135 : decode cX0_mix 135 = .ok (.iaload, 1) := by decide +kernel
theorem dX0_mix_136 : decode cX0_mix 136 = .ok (.ixor, 1) := by decide +kernel
theorem dX0_mix_137 : decode cX0_mix 137 = .ok (.ixor, 1) := by decide +kernel
theorem dX0_mix_138 : decode cX0_mix 138 = .ok (.iastore, 1) := by decide +kernel
theorem dX0_mix_139 : decode cX0_mix 139 = .ok (.iinc 2 1, 3) := by decide +kernel
theorem dX0_mix_142 : decode cX0_mix 142 = .ok (.goto (-34), 3) := by decide +kernel
theorem dX0_mix_145 : decode cX0_mix 145 = .ok (.return_, 1) := by decide +kernel
set_option maxRecDepth 20000 in
theorem ggX0_mixRound_X0_mixFour : GoodIn wsX0_mixRound wsX0_mixFour := goodIn_r _ [6, 7, 8, 9, 10, 5, 11, 12, 13, 14, 15, 16] (by decide +kernel) (by decide +kernel)
set_option maxRecDepth 20000 in
theorem gX0_mixRound_X0_mixFour : GoodIn wsX0_mixRound (wsV RX0 49 RX0 yX0_mixFour wsX0_mixFour) := goodIn_app (goodIn_of _ (by decide +kernel)) ggX0_mixRound_X0_mixFour
theorem dX0_mixRound_0 : decode cX0_mixRound 0 = .ok (.aload_n 0, 1) := by decide +kernel
theorem dX0_mixRound_1 : decode cX0_mixRound 1 = .ok (.iconst 0, 1) := by decide +kernel
theorem dX0_mixRound_2 : decode cX0_mixRound 2 = .ok (.iconst 4, 1) := by decide +kernel
theorem dX0_mixRound_3 : decode cX0_mixRound 3 = .ok (.bipush 8, 2) := by decide +kernel
theorem dX0_mixRound_5 : decode cX0_mixRound 5 = .ok (.bipush 12, 2) := by decide +kernel
theorem dX0_mixRound_7 : decode cX0_mixRound 7 = .ok (.getstatic 46, 3) := by decide +kernel
theorem dX0_mixRound_10 : decode cX0_mixRound 10 = .ok (.iload_n 1, 1) := by decide +kernel
theorem dX0_mixRound_11 : decode cX0_mixRound 11 = .ok (.iaload, 1) := by decide +kernel
theorem dX0_mixRound_12 : decode cX0_mixRound 12 = .ok (.getstatic 46, 3) := by decide +kernel
theorem dX0_mixRound_15 : decode cX0_mixRound 15 = .ok (.iload_n 1, 1) := by decide +kernel
theorem dX0_mixRound_16 : decode cX0_mixRound 16 = .ok (.iconst 1, 1) := by decide +kernel
theorem dX0_mixRound_17 : decode cX0_mixRound 17 = .ok (.iadd, 1) := by decide +kernel
theorem dX0_mixRound_18 : decode cX0_mixRound 18 = .ok (.iaload, 1) := by decide +kernel
theorem dX0_mixRound_19 : decode cX0_mixRound 19 = .ok (.invokevirtual 49, 3) := by decide +kernel
theorem dX0_mixRound_22 : decode cX0_mixRound 22 = .ok (.aload_n 0, 1) := by decide +kernel
theorem dX0_mixRound_23 : decode cX0_mixRound 23 = .ok (.iconst 1, 1) := by decide +kernel
theorem dX0_mixRound_24 : decode cX0_mixRound 24 = .ok (.iconst 5, 1) := by decide +kernel
theorem dX0_mixRound_25 : decode cX0_mixRound 25 = .ok (.bipush 9, 2) := by decide +kernel
theorem dX0_mixRound_27 : decode cX0_mixRound 27 = .ok (.bipush 13, 2) := by decide +kernel
theorem dX0_mixRound_29 : decode cX0_mixRound 29 = .ok (.getstatic 46, 3) := by decide +kernel
theorem dX0_mixRound_32 : decode cX0_mixRound 32 = .ok (.iload_n 1, 1) := by decide +kernel
theorem dX0_mixRound_33 : decode cX0_mixRound 33 = .ok (.iconst 2, 1) := by decide +kernel
theorem dX0_mixRound_34 : decode cX0_mixRound 34 = .ok (.iadd, 1) := by decide +kernel
theorem dX0_mixRound_35 : decode cX0_mixRound 35 = .ok (.iaload, 1) := by decide +kernel
theorem dX0_mixRound_36 : decode cX0_mixRound 36 = .ok (.getstatic 46, 3) := by decide +kernel
theorem dX0_mixRound_39 : decode cX0_mixRound 39 = .ok (.iload_n 1, 1) := by decide +kernel
theorem dX0_mixRound_40 : decode cX0_mixRound 40 = .ok (.iconst 3, 1) := by decide +kernel
theorem dX0_mixRound_41 : decode cX0_mixRound 41 = .ok (.iadd, 1) := by decide +kernel
theorem dX0_mixRound_42 : decode cX0_mixRound 42 = .ok (.iaload, 1) := by decide +kernel
theorem dX0_mixRound_43 : decode cX0_mixRound 43 = .ok (.invokevirtual 49, 3) := by decide +kernel
theorem dX0_mixRound_46 : decode cX0_mixRound 46 = .ok (.aload_n 0, 1) := by decide +kernel
theorem dX0_mixRound_47 : decode cX0_mixRound 47 = .ok (.iconst 2, 1) := by decide +kernel
theorem dX0_mixRound_48 : decode cX0_mixRound 48 = .ok (.bipush 6, 2) := by decide +kernel
theorem dX0_mixRound_50 : decode cX0_mixRound 50 = .ok (.bipush 10, 2) := by decide +kernel
theorem dX0_mixRound_52 : decode cX0_mixRound 52 = .ok (.bipush 14, 2) := by decide +kernel
theorem dX0_mixRound_54 : decode cX0_mixRound 54 = .ok (.getstatic 46, 3) := by decide +kernel
theorem dX0_mixRound_57 : decode cX0_mixRound 57 = .ok (.iload_n 1, 1) := by decide +kernel
theorem dX0_mixRound_58 : decode cX0_mixRound 58 = .ok (.iconst 4, 1) := by decide +kernel
theorem dX0_mixRound_59 : decode cX0_mixRound 59 = .ok (.iadd, 1) := by decide +kernel
theorem dX0_mixRound_60 : decode cX0_mixRound 60 = .ok (.iaload, 1) := by decide +kernel
theorem dX0_mixRound_61 : decode cX0_mixRound 61 = .ok (.getstatic 46, 3) := by decide +kernel
theorem dX0_mixRound_64 : decode cX0_mixRound 64 = .ok (.iload_n 1, 1) := by decide +kernel
theorem dX0_mixRound_65 : decode cX0_mixRound 65 = .ok (.iconst 5, 1) := by decide +kernel
theorem dX0_mixRound_66 : decode cX0_mixRound 66 = .ok (.iadd, 1) := by decide +kernel
theorem dX0_mixRound_67 : decode cX0_mixRound 67 = .ok (.iaload, 1) := by decide +kernel
theorem dX0_mixRound_68 : decode cX0_mixRound 68 = .ok (.invokevirtual 49, 3) := by decide +kernel
theorem dX0_mixRound_71 : decode cX0_mixRound 71 = .ok (.aload_n 0, 1) := by decide +kernel
theorem dX0_mixRound_72 : decode cX0_mixRound 72 = .ok (.iconst 3, 1) := by decide +kernel
theorem dX0_mixRound_73 : decode cX0_mixRound 73 = .ok (.bipush 7, 2) := by decide +kernel
theorem dX0_mixRound_75 : decode cX0_mixRound 75 = .ok (.bipush 11, 2) := by decide +kernel
theorem dX0_mixRound_77 : decode cX0_mixRound 77 = .ok (.bipush 15, 2) := by decide +kernel
theorem dX0_mixRound_79 : decode cX0_mixRound 79 = .ok (.getstatic 46, 3) := by decide +kernel
theorem dX0_mixRound_82 : decode cX0_mixRound 82 = .ok (.iload_n 1, 1) := by decide +kernel
theorem dX0_mixRound_83 : decode cX0_mixRound 83 = .ok (.bipush 6, 2) := by decide +kernel
theorem dX0_mixRound_85 : decode cX0_mixRound 85 = .ok (.iadd, 1) := by decide +kernel
theorem dX0_mixRound_86 : decode cX0_mixRound 86 = .ok (.iaload, 1) := by decide +kernel
theorem dX0_mixRound_87 : decode cX0_mixRound 87 = .ok (.getstatic 46, 3) := by decide +kernel
theorem dX0_mixRound_90 : decode cX0_mixRound 90 = .ok (.iload_n 1, 1) := by decide +kernel
theorem dX0_mixRound_91 : decode cX0_mixRound 91 = .ok (.bipush 7, 2) := by decide +kernel
theorem dX0_mixRound_93 : decode cX0_mixRound 93 = .ok (.iadd, 1) := by decide +kernel
theorem dX0_mixRound_94 : decode cX0_mixRound 94 = .ok (.iaload, 1) := by decide +kernel
theorem dX0_mixRound_95 : decode cX0_mixRound 95 = .ok (.invokevirtual 49, 3) := by decide +kernel
theorem dX0_mixRound_98 : decode cX0_mixRound 98 = .ok (.aload_n 0, 1) := by decide +kernel
theorem dX0_mixRound_99 : decode cX0_mixRound 99 = .ok (.iconst 0, 1) := by decide +kernel
theorem dX0_mixRound_100 : decode cX0_mixRound 100 = .ok (.iconst 5, 1) := by decide +kernel
theorem dX0_mixRound_101 : decode cX0_mixRound 101 = .ok (.bipush 10, 2) := by decide +kernel
theorem dX0_mixRound_103 : decode cX0_mixRound 103 = .ok (.bipush 15, 2) := by decide +kernel
theorem dX0_mixRound_105 : decode cX0_mixRound 105 = .ok (.getstatic 46, 3) := by decide +kernel
theorem dX0_mixRound_108 : decode cX0_mixRound 108 = .ok (.iload_n 1, 1) := by decide +kernel
theorem dX0_mixRound_109 : decode cX0_mixRound 109 = .ok (.bipush 8, 2) := by decide +kernel
theorem dX0_mixRound_111 : decode cX0_mixRound 111 = .ok (.iadd, 1) := by decide +kernel
theorem dX0_mixRound_112 : decode cX0_mixRound 112 = .ok (.iaload, 1) := by decide +kernel
theorem dX0_mixRound_113 : decode cX0_mixRound 113 = .ok (.getstatic 46, 3) := by decide +kernel
theorem dX0_mixRound_116 : decode cX0_mixRound 116 = .ok (.iload_n 1, 1) := by decide +kernel
theorem dX0_mixRound_117 : decode cX0_mixRound 117 = .ok (.bipush 9, 2) := by decide +kernel
theorem dX0_mixRound_119 : decode cX0_mixRound 119 = .ok (.iadd, 1) := by decide +kernel
theorem dX0_mixRound_120 : decode cX0_mixRound 120 = .ok (.iaload, 1) := by decide +kernel
theorem dX0_mixRound_121 : decode cX0_mixRound 121 = .ok (.invokevirtual 49, 3) := by decide +kernel
theorem dX0_mixRound_124 : decode cX0_mixRound 124 = .ok (.aload_n 0, 1) := by decide +kernel
theorem dX0_mixRound_125 : decode cX0_mixRound 125 = .ok (.iconst 1, 1) := by decide +kernel
theorem dX0_mixRound_126 : decode cX0_mixRound 126 = .ok (.bipush 6, 2) := by decide +kernel
theorem dX0_mixRound_128 : decode cX0_mixRound 128 = .ok (.bipush 11, 2) := by decide +kernel
theorem dX0_mixRound_130 : decode cX0_mixRound 130 = .ok (.bipush 12, 2) := by decide +kernel
theorem dX0_mixRound_132 : decode cX0_mixRound 132 = .ok (.getstatic 46, 3) := by decide +kernel
theorem dX0_mixRound_135 : decode cX0_mixRound 135 = .ok (.iload_n 1, 1) := by decide +kernel
theorem dX0_mixRound_136 : decode cX0_mixRound 136 = .ok (.bipush 10, 2) := by decide +kernel
theorem dX0_mixRound_138 : decode cX0_mixRound 138 = .ok (.iadd, 1) := by decide +kernel
theorem dX0_mixRound_139 : decode cX0_mixRound 139 = .ok (.iaload, 1) := by decide +kernel
theorem dX0_mixRound_140 : decode cX0_mixRound 140 = .ok (.getstatic 46, 3) := by decide +kernel
theorem dX0_mixRound_143 : decode cX0_mixRound 143 = .ok (.iload_n 1, 1) := by decide +kernel
theorem dX0_mixRound_144 : decode cX0_mixRound 144 = .ok (.bipush 11, 2) := by decide +kernel
theorem dX0_mixRound_146 : decode cX0_mixRound 146 = .ok (.iadd, 1) := by decide +kernel
theorem dX0_mixRound_147 : decode cX0_mixRound 147 = .ok (.iaload, 1) := by decide +kernel
theorem dX0_mixRound_148 : decode cX0_mixRound 148 = .ok (.invokevirtual 49, 3) := by decide +kernel
theorem dX0_mixRound_151 : decode cX0_mixRound 151 = .ok (.aload_n 0, 1) := by decide +kernel
theorem dX0_mixRound_152 : decode cX0_mixRound 152 = .ok (.iconst 2, 1) := by decide +kernel
theorem dX0_mixRound_153 : decode cX0_mixRound 153 = .ok (.bipush 7, 2) := by decide +kernel
theorem dX0_mixRound_155 : decode cX0_mixRound 155 = .ok (.bipush 8, 2) := by decide +kernel
theorem dX0_mixRound_157 : decode cX0_mixRound 157 = .ok (.bipush 13, 2) := by decide +kernel
theorem dX0_mixRound_159 : decode cX0_mixRound 159 = .ok (.getstatic 46, 3) := by decide +kernel
theorem dX0_mixRound_162 : decode cX0_mixRound 162 = .ok (.iload_n 1, 1) := by decide +kernel
theorem dX0_mixRound_163 : decode cX0_mixRound 163 = .ok (.bipush 12, 2) := by decide +kernel
theorem dX0_mixRound_165 : decode cX0_mixRound 165 = .ok (.iadd, 1) := by decide +kernel
theorem dX0_mixRound_166 : decode cX0_mixRound 166 = .ok (.iaload, 1) := by decide +kernel
theorem dX0_mixRound_167 : decode cX0_mixRound 167 = .ok (.getstatic 46, 3) := by decide +kernel
theorem dX0_mixRound_170 : decode cX0_mixRound 170 = .ok (.iload_n 1, 1) := by decide +kernel
theorem dX0_mixRound_171 : decode cX0_mixRound 171 = .ok (.bipush 13, 2) := by decide +kernel
theorem dX0_mixRound_173 : decode cX0_mixRound 173 = .ok (.iadd, 1) := by decide +kernel
theorem dX0_mixRound_174 : decode cX0_mixRound 174 = .ok (.iaload, 1) := by decide +kernel
theorem dX0_mixRound_175 : decode cX0_mixRound 175 = .ok (.invokevirtual 49, 3) := by decide +kernel
theorem dX0_mixRound_178 : decode cX0_mixRound 178 = .ok (.aload_n 0, 1) := by decide +kernel
theorem dX0_mixRound_179 : decode cX0_mixRound 179 = .ok (.iconst 3, 1) := by decide +kernel
theorem dX0_mixRound_180 : decode cX0_mixRound 180 = .ok (.iconst 4, 1) := by decide +kernel
theorem dX0_mixRound_181 : decode cX0_mixRound 181 = .ok (.bipush 9, 2) := by decide +kernel
theorem dX0_mixRound_183 : decode cX0_mixRound 183 = .ok (.bipush 14, 2) := by decide +kernel
theorem dX0_mixRound_185 : decode cX0_mixRound 185 = .ok (.getstatic 46, 3) := by decide +kernel
theorem dX0_mixRound_188 : decode cX0_mixRound 188 = .ok (.iload_n 1, 1) := by decide +kernel
theorem dX0_mixRound_189 : decode cX0_mixRound 189 = .ok (.bipush 14, 2) := by decide +kernel
theorem dX0_mixRound_191 : decode cX0_mixRound 191 = .ok (.iadd, 1) := by decide +kernel
theorem dX0_mixRound_192 : decode cX0_mixRound 192 = .ok (.iaload, 1) := by decide +kernel
theorem dX0_mixRound_193 : decode cX0_mixRound 193 = .ok (.getstatic 46, 3) := by decide +kernel
theorem dX0_mixRound_196 : decode cX0_mixRound 196 = .ok (.iload_n 1, 1) := by decide +kernel
theorem dX0_mixRound_197 : decode cX0_mixRound 197 = .ok (.bipush 15, 2) := by decide +kernel
theorem dX0_mixRound_199 : decode cX0_mixRound 199 = .ok (.iadd, 1) := by decide +kernel
theorem dX0_mixRound_200 : decode cX0_mixRound 200 = .ok (.iaload, 1) := by decide +kernel
theorem dX0_mixRound_201 : decode cX0_mixRound 201 = .ok (.invokevirtual 49, 3) := by decide +kernel
theorem dX0_mixRound_204 : decode cX0_mixRound 204 = .ok (.return_, 1) := by decide +kernel
set_option maxRecDepth 20000 in
theorem ggX0_mixFour_X0_turnDown : GoodIn wsX0_mixFour wsX0_turnDown := goodIn_r _ [6] (by decide +kernel) (by decide +kernel)
set_option maxRecDepth 20000 in
theorem gX0_mixFour_X0_turnDown : GoodIn wsX0_mixFour (va_wsS RX0 53 yX0_turnDown wsX0_turnDown) := goodIn_app (goodIn_of _ (by decide +kernel)) ggX0_mixFour_X0_turnDown
theorem dX0_mixFour_0 : decode cX0_mixFour 0 = .ok (.aload_n 0, 1) := by decide +kernel
theorem dX0_mixFour_1 : decode cX0_mixFour 1 = .ok (.getfield 16, 3) := by decide +kernel
theorem dX0_mixFour_4 : decode cX0_mixFour 4 = .ok (.iload_n 1, 1) := by decide +kernel
theorem dX0_mixFour_5 : decode cX0_mixFour 5 = .ok (.aload_n 0, 1) := by decide +kernel
theorem dX0_mixFour_6 : decode cX0_mixFour 6 = .ok (.getfield 16, 3) := by decide +kernel
theorem dX0_mixFour_9 : decode cX0_mixFour 9 = .ok (.iload_n 1, 1) := by decide +kernel
theorem dX0_mixFour_10 : decode cX0_mixFour 10 = .ok (.iaload, 1) := by decide +kernel
theorem dX0_mixFour_11 : decode cX0_mixFour 11 = .ok (.aload_n 0, 1) := by decide +kernel
theorem dX0_mixFour_12 : decode cX0_mixFour 12 = .ok (.getfield 16, 3) := by decide +kernel
theorem dX0_mixFour_15 : decode cX0_mixFour 15 = .ok (.iload_n 2, 1) := by decide +kernel
theorem dX0_mixFour_16 : decode cX0_mixFour 16 = .ok (.iaload, 1) := by decide +kernel
theorem dX0_mixFour_17 : decode cX0_mixFour 17 = .ok (.iadd, 1) := by decide +kernel
theorem dX0_mixFour_18 : decode cX0_mixFour 18 = .ok (.aload_n 0, 1) := by decide +kernel
theorem dX0_mixFour_19 : decode cX0_mixFour 19 = .ok (.getfield 13, 3) := by decide +kernel
theorem dX0_mixFour_22 : decode cX0_mixFour 22 = .ok (.iload 5, 2) := by decide +kernel
theorem dX0_mixFour_24 : decode cX0_mixFour 24 = .ok (.iaload, 1) := by decide +kernel
theorem dX0_mixFour_25 : decode cX0_mixFour 25 = .ok (.iadd, 1) := by decide +kernel
theorem dX0_mixFour_26 : decode cX0_mixFour 26 = .ok (.iastore, 1) := by decide +kernel
theorem dX0_mixFour_27 : decode cX0_mixFour 27 = .ok (.aload_n 0, 1) := by decide +kernel
theorem dX0_mixFour_28 : decode cX0_mixFour 28 = .ok (.getfield 16, 3) := by decide +kernel
theorem dX0_mixFour_31 : decode cX0_mixFour 31 = .ok (.iload 4, 2) := by decide +kernel
theorem dX0_mixFour_33 : decode cX0_mixFour 33 = .ok (.aload_n 0, 1) := by decide +kernel
theorem dX0_mixFour_34 : decode cX0_mixFour 34 = .ok (.getfield 16, 3) := by decide +kernel
theorem dX0_mixFour_37 : decode cX0_mixFour 37 = .ok (.iload 4, 2) := by decide +kernel
theorem dX0_mixFour_39 : decode cX0_mixFour 39 = .ok (.iaload, 1) := by decide +kernel
theorem dX0_mixFour_40 : decode cX0_mixFour 40 = .ok (.aload_n 0, 1) := by decide +kernel
theorem dX0_mixFour_41 : decode cX0_mixFour 41 = .ok (.getfield 16, 3) := by decide +kernel
theorem dX0_mixFour_44 : decode cX0_mixFour 44 = .ok (.iload_n 1, 1) := by decide +kernel
theorem dX0_mixFour_45 : decode cX0_mixFour 45 = .ok (.iaload, 1) := by decide +kernel
theorem dX0_mixFour_46 : decode cX0_mixFour 46 = .ok (.ixor, 1) := by decide +kernel
theorem dX0_mixFour_47 : decode cX0_mixFour 47 = .ok (.bipush 16, 2) := by decide +kernel
theorem dX0_mixFour_49 : decode cX0_mixFour 49 = .ok (.invokestatic 53, 3) := by decide +kernel
theorem dX0_mixFour_52 : decode cX0_mixFour 52 = .ok (.iastore, 1) := by decide +kernel
theorem dX0_mixFour_53 : decode cX0_mixFour 53 = .ok (.aload_n 0, 1) := by decide +kernel
theorem dX0_mixFour_54 : decode cX0_mixFour 54 = .ok (.getfield 16, 3) := by decide +kernel
theorem dX0_mixFour_57 : decode cX0_mixFour 57 = .ok (.iload_n 3, 1) := by decide +kernel
theorem dX0_mixFour_58 : decode cX0_mixFour 58 = .ok (.aload_n 0, 1) := by decide +kernel
theorem dX0_mixFour_59 : decode cX0_mixFour 59 = .ok (.getfield 16, 3) := by decide +kernel
theorem dX0_mixFour_62 : decode cX0_mixFour 62 = .ok (.iload_n 3, 1) := by decide +kernel
theorem dX0_mixFour_63 : decode cX0_mixFour 63 = .ok (.iaload, 1) := by decide +kernel
theorem dX0_mixFour_64 : decode cX0_mixFour 64 = .ok (.aload_n 0, 1) := by decide +kernel
theorem dX0_mixFour_65 : decode cX0_mixFour 65 = .ok (.getfield 16, 3) := by decide +kernel
theorem dX0_mixFour_68 : decode cX0_mixFour 68 = .ok (.iload 4, 2) := by decide +kernel
theorem dX0_mixFour_70 : decode cX0_mixFour 70 = .ok (.iaload, 1) := by decide +kernel
theorem dX0_mixFour_71 : decode cX0_mixFour 71 = .ok (.iadd, 1) := by decide +kernel
theorem dX0_mixFour_72 : decode cX0_mixFour 72 = .ok (.iastore, 1) := by decide +kernel
theorem dX0_mixFour_73 : decode cX0_mixFour 73 = .ok (.aload_n 0, 1) := by decide +kernel
theorem dX0_mixFour_74 : decode cX0_mixFour 74 = .ok (.getfield 16, 3) := by decide +kernel
theorem dX0_mixFour_77 : decode cX0_mixFour 77 = .ok (.iload_n 2, 1) := by decide +kernel
theorem dX0_mixFour_78 : decode cX0_mixFour 78 = .ok (.aload_n 0, 1) := by decide +kernel
theorem dX0_mixFour_79 : decode cX0_mixFour 79 = .ok (.getfield 16, 3) := by decide +kernel
theorem dX0_mixFour_82 : decode cX0_mixFour 82 = .ok (.iload_n 2, 1) := by decide +kernel
theorem dX0_mixFour_83 : decode cX0_mixFour 83 = .ok (.iaload, 1) := by decide +kernel
theorem dX0_mixFour_84 : decode cX0_mixFour 84 = .ok (.aload_n 0, 1) := by decide +kernel
theorem dX0_mixFour_85 : decode cX0_mixFour 85 = .ok (.getfield 16, 3) := by decide +kernel
theorem dX0_mixFour_88 : decode cX0_mixFour 88 = .ok (.iload_n 3, 1) := by decide +kernel
theorem dX0_mixFour_89 : decode cX0_mixFour 89 = .ok (.iaload, 1) := by decide +kernel
theorem dX0_mixFour_90 : decode cX0_mixFour 90 = .ok (.ixor, 1) := by decide +kernel
theorem dX0_mixFour_91 : decode cX0_mixFour 91 = .ok (.bipush 12, 2) := by decide +kernel
theorem dX0_mixFour_93 : decode cX0_mixFour 93 = .ok (.invokestatic 53, 3) := by decide +kernel
theorem dX0_mixFour_96 : decode cX0_mixFour 96 = .ok (.iastore, 1) := by decide +kernel
theorem dX0_mixFour_97 : decode cX0_mixFour 97 = .ok (.aload_n 0, 1) := by decide +kernel
theorem dX0_mixFour_98 : decode cX0_mixFour 98 = .ok (.getfield 16, 3) := by decide +kernel
theorem dX0_mixFour_101 : decode cX0_mixFour 101 = .ok (.iload_n 1, 1) := by decide +kernel
theorem dX0_mixFour_102 : decode cX0_mixFour 102 = .ok (.aload_n 0, 1) := by decide +kernel
theorem dX0_mixFour_103 : decode cX0_mixFour 103 = .ok (.getfield 16, 3) := by decide +kernel
theorem dX0_mixFour_106 : decode cX0_mixFour 106 = .ok (.iload_n 1, 1) := by decide +kernel
theorem dX0_mixFour_107 : decode cX0_mixFour 107 = .ok (.iaload, 1) := by decide +kernel
theorem dX0_mixFour_108 : decode cX0_mixFour 108 = .ok (.aload_n 0, 1) := by decide +kernel
theorem dX0_mixFour_109 : decode cX0_mixFour 109 = .ok (.getfield 16, 3) := by decide +kernel
theorem dX0_mixFour_112 : decode cX0_mixFour 112 = .ok (.iload_n 2, 1) := by decide +kernel
theorem dX0_mixFour_113 : decode cX0_mixFour 113 = .ok (.iaload, 1) := by decide +kernel
theorem dX0_mixFour_114 : decode cX0_mixFour 114 = .ok (.iadd, 1) := by decide +kernel
theorem dX0_mixFour_115 : decode cX0_mixFour 115 = .ok (.aload_n 0, 1) := by decide +kernel
theorem dX0_mixFour_116 : decode cX0_mixFour 116 = .ok (.getfield 13, 3) := by decide +kernel
theorem dX0_mixFour_119 : decode cX0_mixFour 119 = .ok (.iload 6, 2) := by decide +kernel
theorem dX0_mixFour_121 : decode cX0_mixFour 121 = .ok (.iaload, 1) := by decide +kernel
theorem dX0_mixFour_122 : decode cX0_mixFour 122 = .ok (.iadd, 1) := by decide +kernel
theorem dX0_mixFour_123 : decode cX0_mixFour 123 = .ok (.iastore, 1) := by decide +kernel
theorem dX0_mixFour_124 : decode cX0_mixFour 124 = .ok (.aload_n 0, 1) := by decide +kernel
theorem dX0_mixFour_125 : decode cX0_mixFour 125 = .ok (.getfield 16, 3) := by decide +kernel
theorem dX0_mixFour_128 : decode cX0_mixFour 128 = .ok (.iload 4, 2) := by decide +kernel
theorem dX0_mixFour_130 : decode cX0_mixFour 130 = .ok (.aload_n 0, 1) := by decide +kernel
theorem dX0_mixFour_131 : decode cX0_mixFour 131 = .ok (.getfield 16, 3) := by decide +kernel
theorem dX0_mixFour_134 : decode cX0_mixFour 134 = .ok (.iload 4, 2) := by decide +kernel
theorem dX0_mixFour_136 : decode cX0_mixFour 136 = .ok (.iaload, 1) := by decide +kernel
theorem dX0_mixFour_137 : decode cX0_mixFour 137 = .ok (.aload_n 0, 1) := by decide +kernel
theorem dX0_mixFour_138 : decode cX0_mixFour 138 = .ok (.getfield 16, 3) := by decide +kernel
theorem dX0_mixFour_141 : decode cX0_mixFour 141 = .ok (.iload_n 1, 1) := by decide +kernel
theorem dX0_mixFour_142 : decode cX0_mixFour 142 = .ok (.iaload, 1) := by decide +kernel
theorem dX0_mixFour_143 : decode cX0_mixFour 143 = .ok (.ixor, 1) := by decide +kernel
theorem dX0_mixFour_144 : decode cX0_mixFour 144 = .ok (.bipush 8, 2) := by decide +kernel
theorem dX0_mixFour_146 : decode cX0_mixFour 146 = .ok (.invokestatic 53, 3) := by decide +kernel
theorem dX0_mixFour_149 : decode cX0_mixFour 149 = .ok (.iastore, 1) := by decide +kernel
theorem dX0_mixFour_150 : decode cX0_mixFour 150 = .ok (.aload_n 0, 1) := by decide +kernel
theorem dX0_mixFour_151 : decode cX0_mixFour 151 = .ok (.getfield 16, 3) := by decide +kernel
theorem dX0_mixFour_154 : decode cX0_mixFour 154 = .ok (.iload_n 3, 1) := by decide +kernel
theorem dX0_mixFour_155 : decode cX0_mixFour 155 = .ok (.aload_n 0, 1) := by decide +kernel
theorem dX0_mixFour_156 : decode cX0_mixFour 156 = .ok (.getfield 16, 3) := by decide +kernel
theorem dX0_mixFour_159 : decode cX0_mixFour 159 = .ok (.iload_n 3, 1) := by decide +kernel
theorem dX0_mixFour_160 : decode cX0_mixFour 160 = .ok (.iaload, 1) := by decide +kernel
theorem dX0_mixFour_161 : decode cX0_mixFour 161 = .ok (.aload_n 0, 1) := by decide +kernel
theorem dX0_mixFour_162 : decode cX0_mixFour 162 = .ok (.getfield 16, 3) := by decide +kernel
theorem dX0_mixFour_165 : decode cX0_mixFour 165 = .ok (.iload 4, 2) := by decide +kernel
theorem dX0_mixFour_167 : decode cX0_mixFour 167 = .ok (.iaload, 1) := by decide +kernel
theorem dX0_mixFour_168 : decode cX0_mixFour 168 = .ok (.iadd, 1) := by decide +kernel
theorem dX0_mixFour_169 : decode cX0_mixFour 169 = .ok (.iastore, 1) := by decide +kernel
theorem dX0_mixFour_170 : decode cX0_mixFour 170 = .ok (.aload_n 0, 1) := by decide +kernel
theorem dX0_mixFour_171 : decode cX0_mixFour 171 = .ok (.getfield 16, 3) := by decide +kernel
theorem dX0_mixFour_174 : decode cX0_mixFour 174 = .ok (.iload_n 2, 1) := by decide +kernel
theorem dX0_mixFour_175 : decode cX0_mixFour 175 = .ok (.aload_n 0, 1) := by decide +kernel
theorem dX0_mixFour_176 : decode cX0_mixFour 176 = .ok (.getfield 16, 3) := by decide +kernel
theorem dX0_mixFour_179 : decode cX0_mixFour 179 = .ok (.iload_n 2, 1) := by decide +kernel
theorem dX0_mixFour_180 : decode cX0_mixFour 180 = .ok (.iaload, 1) := by decide +kernel
theorem dX0_mixFour_181 : decode cX0_mixFour 181 = .ok (.aload_n 0, 1) := by decide +kernel
theorem dX0_mixFour_182 : decode cX0_mixFour 182 = .ok (.getfield 16, 3) := by decide +kernel
theorem dX0_mixFour_185 : decode cX0_mixFour 185 = .ok (.iload_n 3, 1) := by decide +kernel
theorem dX0_mixFour_186 : decode cX0_mixFour 186 = .ok (.iaload, 1) := by decide +kernel
theorem dX0_mixFour_187 : decode cX0_mixFour 187 = .ok (.ixor, 1) := by decide +kernel
theorem dX0_mixFour_188 : decode cX0_mixFour 188 = .ok (.bipush 7, 2) := by decide +kernel
theorem dX0_mixFour_190 : decode cX0_mixFour 190 = .ok (.invokestatic 53, 3) := by decide +kernel
theorem dX0_mixFour_193 : decode cX0_mixFour 193 = .ok (.iastore, 1) := by decide +kernel
theorem dX0_mixFour_194 : decode cX0_mixFour 194 = .ok (.return_, 1) := by decide +kernel
theorem dX0_turnDown_0 : decode cX0_turnDown 0 = .ok (.iload_n 0, 1) := by decide +kernel
theorem dX0_turnDown_1 : decode cX0_turnDown 1 = .ok (.iload_n 1, 1) := by decide +kernel
theorem dX0_turnDown_2 : decode cX0_turnDown 2 = .ok (.iushr, 1) := by decide +kernel
theorem dX0_turnDown_3 : decode cX0_turnDown 3 = .ok (.iload_n 0, 1) := by decide +kernel
theorem dX0_turnDown_4 : decode cX0_turnDown 4 = .ok (.bipush 32, 2) := by decide +kernel
theorem dX0_turnDown_6 : decode cX0_turnDown 6 = .ok (.iload_n 1, 1) := by decide +kernel
theorem dX0_turnDown_7 : decode cX0_turnDown 7 = .ok (.isub, 1) := by decide +kernel
theorem dX0_turnDown_8 : decode cX0_turnDown 8 = .ok (.ishl, 1) := by decide +kernel
theorem dX0_turnDown_9 : decode cX0_turnDown 9 = .ok (.ior, 1) := by decide +kernel
theorem dX0_turnDown_10 : decode cX0_turnDown 10 = .ok (.ireturn, 1) := by decide +kernel
set_option maxRecDepth 20000 in
theorem ggX1_init_X0_init : GoodIn wsX1_init wsX0_init := goodIn_r _ [15, 16, 2, 3, 4, 17, 18, 19, 20, 21, 27, 28, 29, 30, 31] (by decide +kernel) (by decide +kernel)
set_option maxRecDepth 20000 in
theorem gX1_init_X0_init : GoodIn wsX1_init (wsX0_init) := ggX1_init_X0_init
