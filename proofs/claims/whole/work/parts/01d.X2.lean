theorem dX2_init_0 : decode cX2_init 0 = .ok (.aload_n 0, 1) := by decide +kernel
theorem dX2_init_1 : decode cX2_init 1 = .ok (.invokespecial 5, 3) := by decide +kernel
theorem dX2_init_4 : decode cX2_init 4 = .ok (.aload_n 0, 1) := by decide +kernel
theorem dX2_init_5 : decode cX2_init 5 = .ok (.sipush 364, 3) := by decide +kernel
theorem dX2_init_8 : decode cX2_init 8 = .ok (.newarray .long, 2) := by decide +kernel
theorem dX2_init_10 : decode cX2_init 10 = .ok (.putfield 11, 3) := by decide +kernel
theorem dX2_init_13 : decode cX2_init 13 = .ok (.return_, 1) := by decide +kernel
theorem dX2_keep_0 : decode cX2_keep 0 = .ok (.iload_n 1, 1) := by decide +kernel
theorem dX2_keep_1 : decode cX2_keep 1 = .ok (.ifCond .lt 9, 3) := by decide +kernel
theorem dX2_keep_4 : decode cX2_keep 4 = .ok (.iload_n 1, 1) := by decide +kernel
theorem dX2_keep_5 : decode cX2_keep 5 = .ok (.bipush 90, 2) := by decide +kernel
theorem dX2_keep_7 : decode cX2_keep 7 = .ok (.if_icmp .le 4, 3) := by decide +kernel
theorem dX2_keep_10 : decode cX2_keep 10 = .ok (.return_, 1) := by decide +kernel
theorem dX2_keep_11 : decode cX2_keep 11 = .ok (.iconst 0, 1) := by decide +kernel
theorem dX2_keep_12 : decode cX2_keep 12 = .ok (.istore_n 3, 1) := by decide +kernel
theorem dX2_keep_13 : decode cX2_keep 13 = .ok (.iload_n 3, 1) := by decide +kernel
theorem dX2_keep_14 : decode cX2_keep 14 = .ok (.iconst 4, 1) := by decide +kernel
theorem dX2_keep_15 : decode cX2_keep 15 = .ok (.if_icmp .ge 27, 3) := by decide +kernel
theorem dX2_keep_18 : decode cX2_keep 18 = .ok (.aload_n 0, 1) := by decide +kernel
theorem dX2_keep_19 : decode cX2_keep 19 = .ok (.getfield 11, 3) := by decide +kernel
theorem dX2_keep_22 : decode cX2_keep 22 = .ok (.iload_n 1, 1) := by decide +kernel
theorem dX2_keep_23 : decode cX2_keep 23 = .ok (.iconst 4, 1) := by decide +kernel
theorem dX2_keep_24 : decode cX2_keep 24 = .ok (.imul, 1) := by decide +kernel
theorem dX2_keep_25 : decode cX2_keep 25 = .ok (.iload_n 3, 1) := by decide +kernel
theorem dX2_keep_26 : decode cX2_keep 26 = .ok (.iadd, 1) := by decide +kernel
theorem dX2_keep_27 : decode cX2_keep 27 = .ok (.aload_n 2, 1) := by decide +kernel
theorem dX2_keep_28 : decode cX2_keep 28 = .ok (.iload_n 3, 1) := by decide +kernel
theorem dX2_keep_29 : decode cX2_keep 29 = .ok (.bipush 25, 2) := by decide +kernel
theorem dX2_keep_31 : decode cX2_keep 31 = .ok (.imul, 1) := by decide +kernel
theorem dX2_keep_32 : decode cX2_keep 32 = .ok (.invokestatic 15, 3) := by decide +kernel
theorem dX2_keep_35 : decode cX2_keep 35 = .ok (.lastore, 1) := by decide +kernel
theorem dX2_keep_36 : decode cX2_keep 36 = .ok (.iinc 3 1, 3) := by decide +kernel
theorem dX2_keep_39 : decode cX2_keep 39 = .ok (.goto (-26), 3) := by decide +kernel
theorem dX2_keep_42 : decode cX2_keep 42 = .ok (.return_, 1) := by decide +kernel
theorem dX2_firstLike_0 : decode cX2_firstLike 0 = .ok (.iload_n 1, 1) := by decide +kernel
theorem dX2_firstLike_1 : decode cX2_firstLike 1 = .ok (.ifCond .lt 9, 3) := by decide +kernel
theorem dX2_firstLike_4 : decode cX2_firstLike 4 = .ok (.iload_n 1, 1) := by decide +kernel
theorem dX2_firstLike_5 : decode cX2_firstLike 5 = .ok (.bipush 90, 2) := by decide +kernel
theorem dX2_firstLike_7 : decode cX2_firstLike 7 = .ok (.if_icmp .le 5, 3) := by decide +kernel
theorem dX2_firstLike_10 : decode cX2_firstLike 10 = .ok (.iload_n 1, 1) := by decide +kernel
theorem dX2_firstLike_11 : decode cX2_firstLike 11 = .ok (.ireturn, 1) := by decide +kernel
theorem dX2_firstLike_12 : decode cX2_firstLike 12 = .ok (.iconst 0, 1) := by decide +kernel
theorem dX2_firstLike_13 : decode cX2_firstLike 13 = .ok (.istore_n 2, 1) := by decide +kernel
theorem dX2_firstLike_14 : decode cX2_firstLike 14 = .ok (.iload_n 2, 1) := by decide +kernel
theorem dX2_firstLike_15 : decode cX2_firstLike 15 = .ok (.iload_n 1, 1) := by decide +kernel
theorem dX2_firstLike_16 : decode cX2_firstLike 16 = .ok (.if_icmp .ge 20, 3) := by decide +kernel
theorem dX2_firstLike_19 : decode cX2_firstLike 19 = .ok (.aload_n 0, 1) := by decide +kernel
theorem dX2_firstLike_20 : decode cX2_firstLike 20 = .ok (.iload_n 2, 1) := by decide +kernel
theorem dX2_firstLike_21 : decode cX2_firstLike 21 = .ok (.iload_n 1, 1) := by decide +kernel
theorem dX2_firstLike_22 : decode cX2_firstLike 22 = .ok (.invokevirtual 19, 3) := by decide +kernel
theorem dX2_firstLike_25 : decode cX2_firstLike 25 = .ok (.ifCond .eq 5, 3) := by decide +kernel
theorem dX2_firstLike_28 : decode cX2_firstLike 28 = .ok (.iload_n 2, 1) := by decide +kernel
theorem dX2_firstLike_29 : decode cX2_firstLike 29 = .ok (.ireturn, 1) := by decide +kernel
theorem dX2_firstLike_30 : decode cX2_firstLike 30 = .ok (.iinc 2 1, 3) := by decide +kernel
theorem dX2_firstLike_33 : decode cX2_firstLike 33 = .ok (.goto (-19), 3) := by decide +kernel
theorem dX2_firstLike_36 : decode cX2_firstLike 36 = .ok (.iload_n 1, 1) := by decide +kernel
theorem dX2_firstLike_37 : decode cX2_firstLike 37 = .ok (.ireturn, 1) := by decide +kernel
theorem dX2_packed_0 : decode cX2_packed 0 = .ok (.lconst 0, 1) := by decide +kernel
theorem dX2_packed_1 : decode cX2_packed 1 = .ok (.lstore_n 2, 1) := by decide +kernel
theorem dX2_packed_2 : decode cX2_packed 2 = .ok (.iconst 0, 1) := by decide +kernel
theorem dX2_packed_3 : decode cX2_packed 3 = .ok (.istore 4, 2) := by decide +kernel
theorem dX2_packed_5 : decode cX2_packed 5 = .ok (.iload 4, 2) := by decide +kernel
theorem dX2_packed_7 : decode cX2_packed 7 = .ok (.bipush 25, 2) := by decide +kernel
theorem dX2_packed_9 : decode cX2_packed 9 = .ok (.if_icmp .ge 23, 3) := by decide +kernel
theorem dX2_packed_12 : decode cX2_packed 12 = .ok (.lload_n 2, 1) := by decide +kernel
theorem dX2_packed_13 : decode cX2_packed 13 = .ok (.iconst 2, 1) := by decide +kernel
theorem dX2_packed_14 : decode cX2_packed 14 = .ok (.lshl, 1) := by decide +kernel
theorem dX2_packed_15 : decode cX2_packed 15 = .ok (.aload_n 0, 1) := by decide +kernel
theorem dX2_packed_16 : decode cX2_packed 16 = .ok (.iload_n 1, 1) := by decide +kernel
theorem dX2_packed_17 : decode cX2_packed 17 = .ok (.iload 4, 2) := by decide +kernel
theorem dX2_packed_19 : decode cX2_packed 19 = .ok (.iadd, 1) := by decide +kernel
theorem dX2_packed_20 : decode cX2_packed 20 = .ok (.invokevirtual 23, 3) := by decide +kernel
theorem dX2_packed_23 : decode cX2_packed 23 = .ok (.i2l, 1) := by decide +kernel
theorem dX2_packed_24 : decode cX2_packed 24 = .ok (.lor, 1) := by decide +kernel
theorem dX2_packed_25 : decode cX2_packed 25 = .ok (.lstore_n 2, 1) := by decide +kernel
theorem dX2_packed_26 : decode cX2_packed 26 = .ok (.iinc 4 1, 3) := by decide +kernel
theorem dX2_packed_29 : decode cX2_packed 29 = .ok (.goto (-24), 3) := by decide +kernel
theorem dX2_packed_32 : decode cX2_packed 32 = .ok (.lload_n 2, 1) := by decide +kernel
theorem dX2_packed_33 : decode cX2_packed 33 = .ok (.lreturn, 1) := by decide +kernel
theorem dX2_isSame_0 : decode cX2_isSame 0 = .ok (.iconst 0, 1) := by decide +kernel
theorem dX2_isSame_1 : decode cX2_isSame 1 = .ok (.istore_n 3, 1) := by decide +kernel
theorem dX2_isSame_2 : decode cX2_isSame 2 = .ok (.iload_n 3, 1) := by decide +kernel
theorem dX2_isSame_3 : decode cX2_isSame 3 = .ok (.iconst 4, 1) := by decide +kernel
theorem dX2_isSame_4 : decode cX2_isSame 4 = .ok (.if_icmp .ge 35, 3) := by decide +kernel
theorem dX2_isSame_7 : decode cX2_isSame 7 = .ok (.aload_n 0, 1) := by decide +kernel
theorem dX2_isSame_8 : decode cX2_isSame 8 = .ok (.getfield 11, 3) := by decide +kernel
theorem dX2_isSame_11 : decode cX2_isSame 11 = .ok (.iload_n 1, 1) := by decide +kernel
theorem dX2_isSame_12 : decode cX2_isSame 12 = .ok (.iconst 4, 1) := by decide +kernel
theorem dX2_isSame_13 : decode cX2_isSame 13 = .ok (.imul, 1) := by decide +kernel
theorem dX2_isSame_14 : decode cX2_isSame 14 = .ok (.iload_n 3, 1) := by decide +kernel
theorem dX2_isSame_15 : decode cX2_isSame 15 = .ok (.iadd, 1) := by decide +kernel
theorem dX2_isSame_16 : decode cX2_isSame 16 = .ok (.laload, 1) := by decide +kernel
theorem dX2_isSame_17 : decode cX2_isSame 17 = .ok (.aload_n 0, 1) := by decide +kernel
theorem dX2_isSame_18 : decode cX2_isSame 18 = .ok (.getfield 11, 3) := by decide +kernel
theorem dX2_isSame_21 : decode cX2_isSame 21 = .ok (.iload_n 2, 1) := by decide +kernel
theorem dX2_isSame_22 : decode cX2_isSame 22 = .ok (.iconst 4, 1) := by decide +kernel
theorem dX2_isSame_23 : decode cX2_isSame 23 = .ok (.imul, 1) := by decide +kernel
theorem dX2_isSame_24 : decode cX2_isSame 24 = .ok (.iload_n 3, 1) := by decide +kernel
theorem dX2_isSame_25 : decode cX2_isSame 25 = .ok (.iadd, 1) := by decide +kernel
theorem dX2_isSame_26 : decode cX2_isSame 26 = .ok (.laload, 1) := by decide +kernel
theorem dX2_isSame_27 : decode cX2_isSame 27 = .ok (.lcmp, 1) := by decide +kernel
theorem dX2_isSame_28 : decode cX2_isSame 28 = .ok (.ifCond .eq 5, 3) := by decide +kernel
theorem dX2_isSame_31 : decode cX2_isSame 31 = .ok (.iconst 0, 1) := by decide +kernel
theorem dX2_isSame_32 : decode cX2_isSame 32 = .ok (.ireturn, 1) := by decide +kernel
theorem dX2_isSame_33 : decode cX2_isSame 33 = .ok (.iinc 3 1, 3) := by decide +kernel
theorem dX2_isSame_36 : decode cX2_isSame 36 = .ok (.goto (-34), 3) := by decide +kernel
theorem dX2_isSame_39 : decode cX2_isSame 39 = .ok (.iconst 1, 1) := by decide +kernel
theorem dX2_isSame_40 : decode cX2_isSame 40 = .ok (.ireturn, 1) := by decide +kernel
set_option maxRecDepth 20000 in
theorem ggX2_keep_X2_packed : GoodIn wsX2_keep wsX2_packed := goodIn_r _ [5, 6, 7, 8, 9, 10, 11, 12, 13, 14, 16, 17, 18, 19] (by decide +kernel) (by decide +kernel)
set_option maxRecDepth 20000 in
theorem gX2_keep_X2_packed : GoodIn wsX2_keep (va_wsS RX2 15 yX2_packed wsX2_packed) := goodIn_app (goodIn_of _ (by decide +kernel)) ggX2_keep_X2_packed
set_option maxRecDepth 20000 in
theorem ggX2_firstLike_X2_isSame : GoodIn wsX2_firstLike wsX2_isSame := goodIn_r _ [5, 6, 7] (by decide +kernel) (by decide +kernel)
set_option maxRecDepth 20000 in
theorem gX2_firstLike_X2_isSame : GoodIn wsX2_firstLike (wsV RX2 19 RX2 yX2_isSame wsX2_isSame) := goodIn_app (goodIn_of _ (by decide +kernel)) ggX2_firstLike_X2_isSame
set_option maxRecDepth 20000 in
theorem ggX2_packed_X0_kind : GoodIn wsX2_packed wsX0_kind := goodIn_r _ [5, 6, 7, 8, 4, 9, 10, 11, 12, 13] (by decide +kernel) (by decide +kernel)
set_option maxRecDepth 20000 in
theorem gX2_packed_X0_kind : GoodIn wsX2_packed (wsV RX2 23 RX0 yX0_kind wsX0_kind) := goodIn_app (goodIn_of _ (by decide +kernel)) ggX2_packed_X0_kind
