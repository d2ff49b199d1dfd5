theorem dX1_init_0 : decode cX1_init 0 = .ok (.aload_n 0, 1) := by decide +kernel
theorem dX1_init_1 : decode cX1_init 1 = .ok (.invokespecial 3, 3) := by decide +kernel
theorem dX1_init_4 : decode cX1_init 4 = .ok (.aload_n 0, 1) := by decide +kernel
theorem dX1_init_5 : decode cX1_init 5 = .ok (.iconst 0, 1) := by decide +kernel
theorem dX1_init_6 : decode cX1_init 6 = .ok (.putfield 9, 3) := by decide +kernel
theorem dX1_init_9 : decode cX1_init 9 = .ok (.aload_n 0, 1) := by decide +kernel
theorem dX1_init_10 : decode cX1_init 10 = .ok (.iconst 5, 1) := by decide +kernel
theorem dX1_init_11 : decode cX1_init 11 = .ok (.newarray .int, 2) := by decide +kernel
theorem dX1_init_13 : decode cX1_init 13 = .ok (.putfield 15, 3) := by decide +kernel
theorem dX1_init_16 : decode cX1_init 16 = .ok (.aload_n 0, 1) := by decide +kernel
theorem dX1_init_17 : decode cX1_init 17 = .ok (.iconst 5, 1) := by decide +kernel
theorem dX1_init_18 : decode cX1_init 18 = .ok (.newarray .int, 2) := by decide +kernel
theorem dX1_init_20 : decode cX1_init 20 = .ok (.putfield 19, 3) := by decide +kernel
theorem dX1_init_23 : decode cX1_init 23 = .ok (.aload_n 0, 1) := by decide +kernel
theorem dX1_init_24 : decode cX1_init 24 = .ok (.iconst 5, 1) := by decide +kernel
theorem dX1_init_25 : decode cX1_init 25 = .ok (.newarray .int, 2) := by decide +kernel
theorem dX1_init_27 : decode cX1_init 27 = .ok (.putfield 22, 3) := by decide +kernel
theorem dX1_init_30 : decode cX1_init 30 = .ok (.aload_n 0, 1) := by decide +kernel
theorem dX1_init_31 : decode cX1_init 31 = .ok (.iconst 5, 1) := by decide +kernel
theorem dX1_init_32 : decode cX1_init 32 = .ok (.newarray .int, 2) := by decide +kernel
theorem dX1_init_34 : decode cX1_init 34 = .ok (.putfield 25, 3) := by decide +kernel
theorem dX1_init_37 : decode cX1_init 37 = .ok (.return_, 1) := by decide +kernel
theorem dX1_clear_0 : decode cX1_clear 0 = .ok (.aload_n 0, 1) := by decide +kernel
theorem dX1_clear_1 : decode cX1_clear 1 = .ok (.iconst 0, 1) := by decide +kernel
theorem dX1_clear_2 : decode cX1_clear 2 = .ok (.putfield 9, 3) := by decide +kernel
theorem dX1_clear_5 : decode cX1_clear 5 = .ok (.return_, 1) := by decide +kernel
theorem dX1_many_0 : decode cX1_many 0 = .ok (.aload_n 0, 1) := by decide +kernel
theorem dX1_many_1 : decode cX1_many 1 = .ok (.getfield 9, 3) := by decide +kernel
theorem dX1_many_4 : decode cX1_many 4 = .ok (.ireturn, 1) := by decide +kernel
theorem dX1_add_0 : decode cX1_add 0 = .ok (.aload_n 0, 1) := by decide +kernel
theorem dX1_add_1 : decode cX1_add 1 = .ok (.getfield 9, 3) := by decide +kernel
theorem dX1_add_4 : decode cX1_add 4 = .ok (.iconst 5, 1) := by decide +kernel
theorem dX1_add_5 : decode cX1_add 5 = .ok (.if_icmp .lt 5, 3) := by decide +kernel
theorem dX1_add_8 : decode cX1_add 8 = .ok (.iconst (-1), 1) := by decide +kernel
theorem dX1_add_9 : decode cX1_add 9 = .ok (.ireturn, 1) := by decide +kernel
theorem dX1_add_10 : decode cX1_add 10 = .ok (.aload_n 0, 1) := by decide +kernel
theorem dX1_add_11 : decode cX1_add 11 = .ok (.getfield 15, 3) := by decide +kernel
theorem dX1_add_14 : decode cX1_add 14 = .ok (.aload_n 0, 1) := by decide +kernel
theorem dX1_add_15 : decode cX1_add 15 = .ok (.getfield 9, 3) := by decide +kernel
theorem dX1_add_18 : decode cX1_add 18 = .ok (.iload_n 1, 1) := by decide +kernel
theorem dX1_add_19 : decode cX1_add 19 = .ok (.iastore, 1) := by decide +kernel
theorem dX1_add_20 : decode cX1_add 20 = .ok (.aload_n 0, 1) := by decide +kernel
theorem dX1_add_21 : decode cX1_add 21 = .ok (.getfield 19, 3) := by decide +kernel
theorem dX1_add_24 : decode cX1_add 24 = .ok (.aload_n 0, 1) := by decide +kernel
theorem dX1_add_25 : decode cX1_add 25 = .ok (.getfield 9, 3) := by decide +kernel
theorem dX1_add_28 : decode cX1_add 28 = .ok (.iload_n 2, 1) := by decide +kernel
theorem dX1_add_29 : decode cX1_add 29 = .ok (.iastore, 1) := by decide +kernel
theorem dX1_add_30 : decode cX1_add 30 = .ok (.aload_n 0, 1) := by decide +kernel
theorem dX1_add_31 : decode cX1_add 31 = .ok (.getfield 22, 3) := by decide +kernel
theorem dX1_add_34 : decode cX1_add 34 = .ok (.aload_n 0, 1) := by decide +kernel
theorem dX1_add_35 : decode cX1_add 35 = .ok (.getfield 9, 3) := by decide +kernel
theorem dX1_add_38 : decode cX1_add 38 = .ok (.iconst 0, 1) := by decide +kernel
theorem dX1_add_39 : decode cX1_add 39 = .ok (.iastore, 1) := by decide +kernel
theorem dX1_add_40 : decode cX1_add 40 = .ok (.aload_n 0, 1) := by decide +kernel
theorem dX1_add_41 : decode cX1_add 41 = .ok (.getfield 25, 3) := by decide +kernel
theorem dX1_add_44 : decode cX1_add 44 = .ok (.aload_n 0, 1) := by decide +kernel
theorem dX1_add_45 : decode cX1_add 45 = .ok (.getfield 9, 3) := by decide +kernel
theorem dX1_add_48 : decode cX1_add 48 = .ok (.iconst 0, 1) := by decide +kernel
theorem dX1_add_49 : decode cX1_add 49 = .ok (.iastore, 1) := by decide +kernel
theorem dX1_add_50 : decode cX1_add 50 = .ok (.aload_n 0, 1) := by decide +kernel
theorem dX1_add_51 : decode cX1_add 51 = .ok (.dup, 1) := by decide +kernel
theorem dX1_add_52 : decode cX1_add 52 = .ok (.getfield 9, 3) := by decide +kernel
theorem dX1_add_55 : decode cX1_add 55 = .ok (.iconst 1, 1) := by decide +kernel
theorem dX1_add_56 : decode cX1_add 56 = .ok (.iadd, 1) := by decide +kernel
theorem dX1_add_57 : decode cX1_add 57 = .ok (.putfield 9, 3) := by decide +kernel
theorem dX1_add_60 : decode cX1_add 60 = .ok (.aload_n 0, 1) := by decide +kernel
theorem dX1_add_61 : decode cX1_add 61 = .ok (.getfield 9, 3) := by decide +kernel
theorem dX1_add_64 : decode cX1_add 64 = .ok (.iconst 1, 1) := by decide +kernel
theorem dX1_add_65 : decode cX1_add 65 = .ok (.isub, 1) := by decide +kernel
theorem dX1_add_66 : decode cX1_add 66 = .ok (.ireturn, 1) := by decide +kernel
theorem dX1_column_0 : decode cX1_column 0 = .ok (.aload_n 0, 1) := by decide +kernel
theorem dX1_column_1 : decode cX1_column 1 = .ok (.iload_n 1, 1) := by decide +kernel
theorem dX1_column_2 : decode cX1_column 2 = .ok (.invokevirtual 28, 3) := by decide +kernel
theorem dX1_column_5 : decode cX1_column 5 = .ok (.ifCond .eq 12, 3) := by decide +kernel
theorem dX1_column_8 : decode cX1_column 8 = .ok (.aload_n 0, 1) := by decide +kernel
theorem dX1_column_9 : decode cX1_column 9 = .ok (.getfield 15, 3) := by decide +kernel
theorem dX1_column_12 : decode cX1_column 12 = .ok (.iload_n 1, 1) := by decide +kernel
theorem dX1_column_13 : decode cX1_column 13 = .ok (.iaload, 1) := by decide +kernel
theorem dX1_column_14 : decode cX1_column 14 = .ok (.goto 4, 3) := by decide +kernel
theorem dX1_column_17 : decode cX1_column 17 = .ok (.iconst 0, 1) := by decide +kernel
theorem dX1_column_18 : decode cX1_column 18 = .ok (.ireturn, 1) := by decide +kernel
theorem dX1_row_0 : decode cX1_row 0 = .ok (.aload_n 0, 1) := by decide +kernel
theorem dX1_row_1 : decode cX1_row 1 = .ok (.iload_n 1, 1) := by decide +kernel
theorem dX1_row_2 : decode cX1_row 2 = .ok (.invokevirtual 28, 3) := by decide +kernel
theorem dX1_row_5 : decode cX1_row 5 = .ok (.ifCond .eq 12, 3) := by decide +kernel
theorem dX1_row_8 : decode cX1_row 8 = .ok (.aload_n 0, 1) := by decide +kernel
theorem dX1_row_9 : decode cX1_row 9 = .ok (.getfield 19, 3) := by decide +kernel
theorem dX1_row_12 : decode cX1_row 12 = .ok (.iload_n 1, 1) := by decide +kernel
theorem dX1_row_13 : decode cX1_row 13 = .ok (.iaload, 1) := by decide +kernel
theorem dX1_row_14 : decode cX1_row 14 = .ok (.goto 4, 3) := by decide +kernel
theorem dX1_row_17 : decode cX1_row 17 = .ok (.iconst 0, 1) := by decide +kernel
theorem dX1_row_18 : decode cX1_row 18 = .ok (.ireturn, 1) := by decide +kernel
theorem dX1_lit_0 : decode cX1_lit 0 = .ok (.aload_n 0, 1) := by decide +kernel
theorem dX1_lit_1 : decode cX1_lit 1 = .ok (.iload_n 1, 1) := by decide +kernel
theorem dX1_lit_2 : decode cX1_lit 2 = .ok (.invokevirtual 28, 3) := by decide +kernel
theorem dX1_lit_5 : decode cX1_lit 5 = .ok (.ifCond .eq 12, 3) := by decide +kernel
theorem dX1_lit_8 : decode cX1_lit 8 = .ok (.aload_n 0, 1) := by decide +kernel
theorem dX1_lit_9 : decode cX1_lit 9 = .ok (.getfield 22, 3) := by decide +kernel
theorem dX1_lit_12 : decode cX1_lit 12 = .ok (.iload_n 1, 1) := by decide +kernel
theorem dX1_lit_13 : decode cX1_lit 13 = .ok (.iaload, 1) := by decide +kernel
theorem dX1_lit_14 : decode cX1_lit 14 = .ok (.goto 4, 3) := by decide +kernel
theorem dX1_lit_17 : decode cX1_lit 17 = .ok (.iconst 0, 1) := by decide +kernel
theorem dX1_lit_18 : decode cX1_lit 18 = .ok (.ireturn, 1) := by decide +kernel
theorem dX1_latest_0 : decode cX1_latest 0 = .ok (.aload_n 0, 1) := by decide +kernel
theorem dX1_latest_1 : decode cX1_latest 1 = .ok (.iload_n 1, 1) := by decide +kernel
theorem dX1_latest_2 : decode cX1_latest 2 = .ok (.invokevirtual 28, 3) := by decide +kernel
theorem dX1_latest_5 : decode cX1_latest 5 = .ok (.ifCond .eq 12, 3) := by decide +kernel
theorem dX1_latest_8 : decode cX1_latest 8 = .ok (.aload_n 0, 1) := by decide +kernel
theorem dX1_latest_9 : decode cX1_latest 9 = .ok (.getfield 25, 3) := by decide +kernel
theorem dX1_latest_12 : decode cX1_latest 12 = .ok (.iload_n 1, 1) := by decide +kernel
theorem dX1_latest_13 : decode cX1_latest 13 = .ok (.iaload, 1) := by decide +kernel
theorem dX1_latest_14 : decode cX1_latest 14 = .ok (.goto 4, 3) := by decide +kernel
theorem dX1_latest_17 : decode cX1_latest 17 = .ok (.iconst 0, 1) := by decide +kernel
theorem dX1_latest_18 : decode cX1_latest 18 = .ok (.ireturn, 1) := by decide +kernel
theorem dX1_litInAll_0 : decode cX1_litInAll 0 = .ok (.iconst 0, 1) := by decide +kernel
theorem dX1_litInAll_1 : decode cX1_litInAll 1 = .ok (.istore_n 1, 1) := by decide +kernel
theorem dX1_litInAll_2 : decode cX1_litInAll 2 = .ok (.iconst 0, 1) := by decide +kernel
theorem dX1_litInAll_3 : decode cX1_litInAll 3 = .ok (.istore_n 2, 1) := by decide +kernel
theorem dX1_litInAll_4 : decode cX1_litInAll 4 = .ok (.iload_n 2, 1) := by decide +kernel
theorem dX1_litInAll_5 : decode cX1_litInAll 5 = .ok (.aload_n 0, 1) := by decide +kernel
theorem dX1_litInAll_6 : decode cX1_litInAll 6 = .ok (.getfield 9, 3) := by decide +kernel
theorem dX1_litInAll_9 : decode cX1_litInAll 9 = .ok (.if_icmp .ge 18, 3) := by decide +kernel
theorem dX1_litInAll_12 : decode cX1_litInAll 12 = .ok (.iload_n 1, 1) := by decide +kernel
theorem dX1_litInAll_13 : decode cX1_litInAll 13 = .ok (.aload_n 0, 1) := by decide +kernel
theorem dX1_litInAll_14 : decode cX1_litInAll 14 = .ok (.getfield 22, 3) := by decide +kernel
theorem dX1_litInAll_17 : decode cX1_litInAll 17 = .ok (.iload_n 2, 1) := by decide +kernel
theorem dX1_litInAll_18 : decode cX1_litInAll 18 = .ok (.iaload, 1) := by decide +kernel
theorem dX1_litInAll_19 : decode cX1_litInAll 19 = .ok (.iadd, 1) := by decide +kernel
theorem dX1_litInAll_20 : decode cX1_litInAll 20 = .ok (.istore_n 1, 1) := by decide +kernel
theorem dX1_litInAll_21 : decode cX1_litInAll 21 = .ok (.iinc 2 1, 3) := by decide +kernel
theorem dX1_litInAll_24 : decode cX1_litInAll 24 = .ok (.goto (-20), 3) := by decide +kernel
theorem dX1_litInAll_27 : decode cX1_litInAll 27 = .ok (.iload_n 1, 1) := by decide +kernel
theorem dX1_litInAll_28 : decode cX1_litInAll 28 = .ok (.ireturn, 1) := by decide +kernel
theorem dX1_alight_0 : decode cX1_alight 0 = .ok (.iconst 0, 1) := by decide +kernel
theorem dX1_alight_1 : decode cX1_alight 1 = .ok (.istore_n 2, 1) := by decide +kernel
theorem dX1_alight_2 : decode cX1_alight 2 = .ok (.iconst 0, 1) := by decide +kernel
theorem dX1_alight_3 : decode cX1_alight 3 = .ok (.istore_n 3, 1) := by decide +kernel
theorem dX1_alight_4 : decode cX1_alight 4 = .ok (.iload_n 3, 1) := by decide +kernel
theorem dX1_alight_5 : decode cX1_alight 5 = .ok (.aload_n 0, 1) := by decide +kernel
theorem dX1_alight_6 : decode cX1_alight 6 = .ok (.getfield 9, 3) := by decide +kernel
theorem dX1_alight_9 : decode cX1_alight 9 = .ok (.if_icmp .ge 21, 3) := by decide +kernel
theorem dX1_alight_12 : decode cX1_alight 12 = .ok (.aload_n 0, 1) := by decide +kernel
theorem dX1_alight_13 : decode cX1_alight 13 = .ok (.aload_n 1, 1) := by decide +kernel
theorem dX1_alight_14 : decode cX1_alight 14 = .ok (.iload_n 3, 1) := by decide +kernel
theorem dX1_alight_15 : decode cX1_alight 15 = .ok (.invokevirtual 32, 3) := by decide +kernel
theorem dX1_alight_18 : decode cX1_alight 18 = .ok (.ifCond .eq 6, 3) := by decide +kernel
theorem dX1_alight_21 : decode cX1_alight 21 = .ok (.iinc 2 1, 3) := by decide +kernel
theorem dX1_alight_24 : decode cX1_alight 24 = .ok (.iinc 3 1, 3) := by decide +kernel
theorem dX1_alight_27 : decode cX1_alight 27 = .ok (.goto (-23), 3) := by decide +kernel
theorem dX1_alight_30 : decode cX1_alight 30 = .ok (.iload_n 2, 1) := by decide +kernel
theorem dX1_alight_31 : decode cX1_alight 31 = .ok (.ireturn, 1) := by decide +kernel
theorem dX1_light_0 : decode cX1_light 0 = .ok (.iconst 0, 1) := by decide +kernel
theorem dX1_light_1 : decode cX1_light 1 = .ok (.istore_n 3, 1) := by decide +kernel
theorem dX1_light_2 : decode cX1_light 2 = .ok (.iload_n 3, 1) := by decide +kernel
theorem dX1_light_3 : decode cX1_light 3 = .ok (.aload_n 0, 1) := by decide +kernel
theorem dX1_light_4 : decode cX1_light 4 = .ok (.getfield 9, 3) := by decide +kernel
theorem dX1_light_7 : decode cX1_light 7 = .ok (.if_icmp .ge 35, 3) := by decide +kernel
theorem dX1_light_10 : decode cX1_light 10 = .ok (.aload_n 0, 1) := by decide +kernel
theorem dX1_light_11 : decode cX1_light 11 = .ok (.aload_n 1, 1) := by decide +kernel
theorem dX1_light_12 : decode cX1_light 12 = .ok (.iload_n 3, 1) := by decide +kernel
theorem dX1_light_13 : decode cX1_light 13 = .ok (.invokevirtual 32, 3) := by decide +kernel
theorem dX1_light_16 : decode cX1_light 16 = .ok (.ifCond .eq 20, 3) := by decide +kernel
theorem dX1_light_19 : decode cX1_light 19 = .ok (.aload_n 0, 1) := by decide +kernel
theorem dX1_light_20 : decode cX1_light 20 = .ok (.getfield 22, 3) := by decide +kernel
theorem dX1_light_23 : decode cX1_light 23 = .ok (.iload_n 3, 1) := by decide +kernel
theorem dX1_light_24 : decode cX1_light 24 = .ok (.dup2, 1) := by decide +kernel
theorem dX1_light_25 : decode cX1_light 25 = .ok (.iaload, 1) := by decide +kernel
theorem dX1_light_26 : decode cX1_light 26 = .ok (.iconst 1, 1) := by decide +kernel
theorem dX1_light_27 : decode cX1_light 27 = .ok (.iadd, 1) := by decide +kernel
theorem dX1_light_28 : decode cX1_light 28 = .ok (.iastore, 1) := by decide +kernel
theorem dX1_light_29 : decode cX1_light 29 = .ok (.aload_n 0, 1) := by decide +kernel
theorem dX1_light_30 : decode cX1_light 30 = .ok (.getfield 25, 3) := by decide +kernel
theorem dX1_light_33 : decode cX1_light 33 = .ok (.iload_n 3, 1) := by decide +kernel
theorem dX1_light_34 : decode cX1_light 34 = .ok (.iload_n 2, 1) := by decide +kernel
theorem dX1_light_35 : decode cX1_light 35 = .ok (.iastore, 1) := by decide +kernel
theorem dX1_light_36 : decode cX1_light 36 = .ok (.iinc 3 1, 3) := by decide +kernel
theorem dX1_light_39 : decode cX1_light 39 = .ok (.goto (-37), 3) := by decide +kernel
theorem dX1_light_42 : decode cX1_light 42 = .ok (.return_, 1) := by decide +kernel
theorem dX1_isLamp_0 : decode cX1_isLamp 0 = .ok (.iload_n 1, 1) := by decide +kernel
theorem dX1_isLamp_1 : decode cX1_isLamp 1 = .ok (.ifCond .lt 15, 3) := by decide +kernel
theorem dX1_isLamp_4 : decode cX1_isLamp 4 = .ok (.iload_n 1, 1) := by decide +kernel
theorem dX1_isLamp_5 : decode cX1_isLamp 5 = .ok (.aload_n 0, 1) := by decide +kernel
theorem dX1_isLamp_6 : decode cX1_isLamp 6 = .ok (.getfield 9, 3) := by decide +kernel
theorem dX1_isLamp_9 : decode cX1_isLamp 9 = .ok (.if_icmp .ge 7, 3) := by decide +kernel
theorem dX1_isLamp_12 : decode cX1_isLamp 12 = .ok (.iconst 1, 1) := by decide +kernel
theorem dX1_isLamp_13 : decode cX1_isLamp 13 = .ok (.goto 4, 3) := by decide +kernel
theorem dX1_isLamp_16 : decode cX1_isLamp 16 = .ok (.iconst 0, 1) := by decide +kernel
theorem dX1_isLamp_17 : decode cX1_isLamp 17 = .ok (.ireturn, 1) := by decide +kernel
theorem dX1_isAlight_0 : decode cX1_isAlight 0 = .ok (.aload_n 1, 1) := by decide +kernel
theorem dX1_isAlight_1 : decode cX1_isAlight 1 = .ok (.aload_n 1, 1) := by decide +kernel
theorem dX1_isAlight_2 : decode cX1_isAlight 2 = .ok (.aload_n 0, 1) := by decide +kernel
theorem dX1_isAlight_3 : decode cX1_isAlight 3 = .ok (.getfield 15, 3) := by decide +kernel
theorem dX1_isAlight_6 : decode cX1_isAlight 6 = .ok (.iload_n 2, 1) := by decide +kernel
theorem dX1_isAlight_7 : decode cX1_isAlight 7 = .ok (.iaload, 1) := by decide +kernel
theorem dX1_isAlight_8 : decode cX1_isAlight 8 = .ok (.aload_n 0, 1) := by decide +kernel
theorem dX1_isAlight_9 : decode cX1_isAlight 9 = .ok (.getfield 19, 3) := by decide +kernel
theorem dX1_isAlight_12 : decode cX1_isAlight 12 = .ok (.iload_n 2, 1) := by decide +kernel
theorem dX1_isAlight_13 : decode cX1_isAlight 13 = .ok (.iaload, 1) := by decide +kernel
theorem dX1_isAlight_14 : decode cX1_isAlight 14 = .ok (.invokevirtual 36, 3) := by decide +kernel
theorem dX1_isAlight_17 : decode cX1_isAlight 17 = .ok (.invokevirtual 42, 3) := by decide +kernel
theorem dX1_isAlight_20 : decode cX1_isAlight 20 = .ok (.iconst 2, 1) := by decide +kernel
theorem dX1_isAlight_21 : decode cX1_isAlight 21 = .ok (.if_icmp .ne 7, 3) := by decide +kernel
theorem dX1_isAlight_24 : decode cX1_isAlight 24 = .ok (.iconst 1, 1) := by decide +kernel
theorem dX1_isAlight_25 : decode cX1_isAlight 25 = .ok (.goto 4, 3) := by decide +kernel
theorem dX1_isAlight_28 : decode cX1_isAlight 28 = .ok (.iconst 0, 1) := by decide +kernel
theorem dX1_isAlight_29 : decode cX1_isAlight 29 = .ok (.ireturn, 1) := by decide +kernel
set_option maxRecDepth 20000 in
theorem ggX1_column_X1_isLamp : GoodIn wsX1_column wsX1_isLamp := goodIn_r _ [6, 7, 8, 9, 10, 11, 12] (by decide +kernel) (by decide +kernel)
set_option maxRecDepth 20000 in
theorem gX1_column_X1_isLamp : GoodIn wsX1_column (wsV RX1 28 RX1 yX1_isLamp wsX1_isLamp) := goodIn_app (goodIn_of _ (by decide +kernel)) ggX1_column_X1_isLamp
set_option maxRecDepth 20000 in
theorem ggX1_row_X1_isLamp : GoodIn wsX1_row wsX1_isLamp := goodIn_r _ [6, 7, 8, 9, 10, 11, 12] (by decide +kernel) (by decide +kernel)
set_option maxRecDepth 20000 in
theorem gX1_row_X1_isLamp : GoodIn wsX1_row (wsV RX1 28 RX1 yX1_isLamp wsX1_isLamp) := goodIn_app (goodIn_of _ (by decide +kernel)) ggX1_row_X1_isLamp
set_option maxRecDepth 20000 in
theorem ggX1_lit_X1_isLamp : GoodIn wsX1_lit wsX1_isLamp := goodIn_r _ [6, 7, 8, 9, 10, 11, 12] (by decide +kernel) (by decide +kernel)
set_option maxRecDepth 20000 in
theorem gX1_lit_X1_isLamp : GoodIn wsX1_lit (wsV RX1 28 RX1 yX1_isLamp wsX1_isLamp) := goodIn_app (goodIn_of _ (by decide +kernel)) ggX1_lit_X1_isLamp
set_option maxRecDepth 20000 in
theorem ggX1_latest_X1_isLamp : GoodIn wsX1_latest wsX1_isLamp := goodIn_r _ [6, 7, 8, 9, 10, 11, 12] (by decide +kernel) (by decide +kernel)
set_option maxRecDepth 20000 in
theorem gX1_latest_X1_isLamp : GoodIn wsX1_latest (wsV RX1 28 RX1 yX1_isLamp wsX1_isLamp) := goodIn_app (goodIn_of _ (by decide +kernel)) ggX1_latest_X1_isLamp
set_option maxRecDepth 20000 in
theorem ggX1_alight_X1_isAlight : GoodIn wsX1_alight wsX1_isAlight := goodIn_r _ [6, 7, 8, 9, 10, 11, 12, 13, 14, 15, 16, 17, 18, 19, 20, 21, 22, 23, 24, 25, 26, 27, 28, 29, 30, 31, 32] (by decide +kernel) (by decide +kernel)
set_option maxRecDepth 20000 in
theorem gX1_alight_X1_isAlight : GoodIn wsX1_alight (wsV RX1 32 RX1 yX1_isAlight wsX1_isAlight) := goodIn_app (goodIn_of _ (by decide +kernel)) ggX1_alight_X1_isAlight
set_option maxRecDepth 20000 in
theorem ggX1_light_X1_isAlight : GoodIn wsX1_light wsX1_isAlight := goodIn_r _ [8, 9, 10, 11, 12, 13, 14, 15, 16, 17, 18, 19, 20, 21, 22, 23, 24, 25, 26, 27, 28, 29, 30, 31, 32, 33, 34] (by decide +kernel) (by decide +kernel)
set_option maxRecDepth 20000 in
theorem gX1_light_X1_isAlight : GoodIn wsX1_light (wsV RX1 32 RX1 yX1_isAlight wsX1_isAlight) := goodIn_app (goodIn_of _ (by decide +kernel)) ggX1_light_X1_isAlight
set_option maxRecDepth 20000 in
theorem ggX1_isAlight_X0_cell : GoodIn wsX1_isAlight wsX0_cell := goodIn_r _ [7, 8, 9, 23, 24, 25, 26] (by decide +kernel) (by decide +kernel)
set_option maxRecDepth 20000 in
theorem gX1_isAlight_X0_cell : GoodIn wsX1_isAlight (wsV RX1 36 RX0 yX0_cell wsX0_cell) := goodIn_app (goodIn_of _ (by decide +kernel)) ggX1_isAlight_X0_cell
set_option maxRecDepth 20000 in
theorem ggX1_isAlight_X0_kind : GoodIn wsX1_isAlight wsX0_kind := goodIn_r _ [13, 14, 15, 16, 6, 17, 23, 24, 25, 26] (by decide +kernel) (by decide +kernel)
set_option maxRecDepth 20000 in
theorem gX1_isAlight_X0_kind : GoodIn wsX1_isAlight (wsV RX1 42 RX0 yX0_kind wsX0_kind) := goodIn_app (goodIn_of _ (by decide +kernel)) ggX1_isAlight_X0_kind
