theorem dX0_init_0 : decode cX0_init 0 = .ok (.aload_n 0, 1) := by decide +kernel
theorem dX0_init_1 : decode cX0_init 1 = .ok (.invokespecial 3, 3) := by decide +kernel
theorem dX0_init_4 : decode cX0_init 4 = .ok (.aload_n 0, 1) := by decide +kernel
theorem dX0_init_5 : decode cX0_init 5 = .ok (.iload_n 1, 1) := by decide +kernel
theorem dX0_init_6 : decode cX0_init 6 = .ok (.putfield 9, 3) := by decide +kernel
theorem dX0_init_9 : decode cX0_init 9 = .ok (.aload_n 0, 1) := by decide +kernel
theorem dX0_init_10 : decode cX0_init 10 = .ok (.iload_n 2, 1) := by decide +kernel
theorem dX0_init_11 : decode cX0_init 11 = .ok (.putfield 15, 3) := by decide +kernel
theorem dX0_init_14 : decode cX0_init 14 = .ok (.aload_n 0, 1) := by decide +kernel
theorem dX0_init_15 : decode cX0_init 15 = .ok (.bipush 100, 2) := by decide +kernel
theorem dX0_init_17 : decode cX0_init 17 = .ok (.newarray .int, 2) := by decide +kernel
theorem dX0_init_19 : decode cX0_init 19 = .ok (.putfield 18, 3) := by decide +kernel
theorem dX0_init_22 : decode cX0_init 22 = .ok (.aload_n 0, 1) := by decide +kernel
theorem dX0_init_23 : decode cX0_init 23 = .ok (.bipush 100, 2) := by decide +kernel
theorem dX0_init_25 : decode cX0_init 25 = .ok (.newarray .int, 2) := by decide +kernel
theorem dX0_init_27 : decode cX0_init 27 = .ok (.putfield 22, 3) := by decide +kernel
theorem dX0_init_30 : decode cX0_init 30 = .ok (.return_, 1) := by decide +kernel
theorem dX0_clear_0 : decode cX0_clear 0 = .ok (.aload_n 0, 1) := by decide +kernel
theorem dX0_clear_1 : decode cX0_clear 1 = .ok (.iload_n 1, 1) := by decide +kernel
theorem dX0_clear_2 : decode cX0_clear 2 = .ok (.putfield 9, 3) := by decide +kernel
theorem dX0_clear_5 : decode cX0_clear 5 = .ok (.aload_n 0, 1) := by decide +kernel
theorem dX0_clear_6 : decode cX0_clear 6 = .ok (.iload_n 2, 1) := by decide +kernel
theorem dX0_clear_7 : decode cX0_clear 7 = .ok (.putfield 15, 3) := by decide +kernel
theorem dX0_clear_10 : decode cX0_clear 10 = .ok (.aload_n 0, 1) := by decide +kernel
theorem dX0_clear_11 : decode cX0_clear 11 = .ok (.getfield 18, 3) := by decide +kernel
theorem dX0_clear_14 : decode cX0_clear 14 = .ok (.iconst 0, 1) := by decide +kernel
theorem dX0_clear_15 : decode cX0_clear 15 = .ok (.invokestatic 25, 3) := by decide +kernel
theorem dX0_clear_18 : decode cX0_clear 18 = .ok (.return_, 1) := by decide +kernel
theorem dX0_copy_0 : decode cX0_copy 0 = .ok (.aload_n 0, 1) := by decide +kernel
theorem dX0_copy_1 : decode cX0_copy 1 = .ok (.aload_n 1, 1) := by decide +kernel
theorem dX0_copy_2 : decode cX0_copy 2 = .ok (.getfield 9, 3) := by decide +kernel
theorem dX0_copy_5 : decode cX0_copy 5 = .ok (.putfield 9, 3) := by decide +kernel
theorem dX0_copy_8 : decode cX0_copy 8 = .ok (.aload_n 0, 1) := by decide +kernel
theorem dX0_copy_9 : decode cX0_copy 9 = .ok (.aload_n 1, 1) := by decide +kernel
theorem dX0_copy_10 : decode cX0_copy 10 = .ok (.getfield 15, 3) := by decide +kernel
theorem dX0_copy_13 : decode cX0_copy 13 = .ok (.putfield 15, 3) := by decide +kernel
theorem dX0_copy_16 : decode cX0_copy 16 = .ok (.aload_n 1, 1) := by decide +kernel
theorem dX0_copy_17 : decode cX0_copy 17 = .ok (.getfield 18, 3) := by decide +kernel
theorem dX0_copy_20 : decode cX0_copy 20 = .ok (.iconst 0, 1) := by decide +kernel
theorem dX0_copy_21 : decode cX0_copy 21 = .ok (.aload_n 0, 1) := by decide +kernel
theorem dX0_copy_22 : decode cX0_copy 22 = .ok (.getfield 18, 3) := by decide +kernel
theorem dX0_copy_25 : decode cX0_copy 25 = .ok (.iconst 0, 1) := by decide +kernel
theorem dX0_copy_26 : decode cX0_copy 26 = .ok (.bipush 100, 2) := by decide +kernel
theorem dX0_copy_28 : decode cX0_copy 28 = .ok (.invokestatic 31, 3) := by decide +kernel
theorem dX0_copy_31 : decode cX0_copy 31 = .ok (.return_, 1) := by decide +kernel
theorem dX0_columns_0 : decode cX0_columns 0 = .ok (.aload_n 0, 1) := by decide +kernel
theorem dX0_columns_1 : decode cX0_columns 1 = .ok (.getfield 9, 3) := by decide +kernel
theorem dX0_columns_4 : decode cX0_columns 4 = .ok (.ireturn, 1) := by decide +kernel
theorem dX0_rows_0 : decode cX0_rows 0 = .ok (.aload_n 0, 1) := by decide +kernel
theorem dX0_rows_1 : decode cX0_rows 1 = .ok (.getfield 15, 3) := by decide +kernel
theorem dX0_rows_4 : decode cX0_rows 4 = .ok (.ireturn, 1) := by decide +kernel
theorem dX0_size_0 : decode cX0_size 0 = .ok (.aload_n 0, 1) := by decide +kernel
theorem dX0_size_1 : decode cX0_size 1 = .ok (.getfield 9, 3) := by decide +kernel
theorem dX0_size_4 : decode cX0_size 4 = .ok (.aload_n 0, 1) := by decide +kernel
theorem dX0_size_5 : decode cX0_size 5 = .ok (.getfield 15, 3) := by decide +kernel
theorem dX0_size_8 : decode cX0_size 8 = .ok (.imul, 1) := by decide +kernel
theorem dX0_size_9 : decode cX0_size 9 = .ok (.ireturn, 1) := by decide +kernel
theorem dX0_cell_0 : decode cX0_cell 0 = .ok (.iload_n 1, 1) := by decide +kernel
theorem dX0_cell_1 : decode cX0_cell 1 = .ok (.ifCond .lt 23, 3) := by decide +kernel
theorem dX0_cell_4 : decode cX0_cell 4 = .ok (.iload_n 1, 1) := by decide +kernel
theorem dX0_cell_5 : decode cX0_cell 5 = .ok (.aload_n 0, 1) := by decide +kernel
theorem dX0_cell_6 : decode cX0_cell 6 = .ok (.getfield 9, 3) := by decide +kernel
theorem dX0_cell_9 : decode cX0_cell 9 = .ok (.if_icmp .ge 15, 3) := by decide +kernel
theorem dX0_cell_12 : decode cX0_cell 12 = .ok (.iload_n 2, 1) := by decide +kernel
theorem dX0_cell_13 : decode cX0_cell 13 = .ok (.ifCond .lt 11, 3) := by decide +kernel
theorem dX0_cell_16 : decode cX0_cell 16 = .ok (.iload_n 2, 1) := by decide +kernel
theorem dX0_cell_17 : decode cX0_cell 17 = .ok (.aload_n 0, 1) := by decide +kernel
theorem dX0_cell_18 : decode cX0_cell 18 = .ok (.getfield 15, 3) := by decide +kernel
theorem dX0_cell_21 : decode cX0_cell 21 = .ok (.if_icmp .lt 5, 3) := by decide +kernel
theorem dX0_cell_24 : decode cX0_cell 24 = .ok (.iconst (-1), 1) := by decide +kernel
theorem dX0_cell_25 : decode cX0_cell 25 = .ok (.ireturn, 1) := by decide +kernel
theorem dX0_cell_26 : decode cX0_cell 26 = .ok (.aload_n 0, 1) := by decide +kernel
theorem dX0_cell_27 : decode cX0_cell 27 = .ok (.getfield 9, 3) := by decide +kernel
theorem dX0_cell_30 : decode cX0_cell 30 = .ok (.iload_n 2, 1) := by decide +kernel
theorem dX0_cell_31 : decode cX0_cell 31 = .ok (.imul, 1) := by decide +kernel
theorem dX0_cell_32 : decode cX0_cell 32 = .ok (.iload_n 1, 1) := by decide +kernel
theorem dX0_cell_33 : decode cX0_cell 33 = .ok (.iadd, 1) := by decide +kernel
theorem dX0_cell_34 : decode cX0_cell 34 = .ok (.ireturn, 1) := by decide +kernel
theorem dX0_holds_0 : decode cX0_holds 0 = .ok (.aload_n 0, 1) := by decide +kernel
theorem dX0_holds_1 : decode cX0_holds 1 = .ok (.iload_n 1, 1) := by decide +kernel
theorem dX0_holds_2 : decode cX0_holds 2 = .ok (.iload_n 2, 1) := by decide +kernel
theorem dX0_holds_3 : decode cX0_holds 3 = .ok (.invokevirtual 37, 3) := by decide +kernel
theorem dX0_holds_6 : decode cX0_holds 6 = .ok (.iconst (-1), 1) := by decide +kernel
theorem dX0_holds_7 : decode cX0_holds 7 = .ok (.if_icmp .eq 28, 3) := by decide +kernel
theorem dX0_holds_10 : decode cX0_holds 10 = .ok (.iload_n 3, 1) := by decide +kernel
theorem dX0_holds_11 : decode cX0_holds 11 = .ok (.aload_n 0, 1) := by decide +kernel
theorem dX0_holds_12 : decode cX0_holds 12 = .ok (.getfield 9, 3) := by decide +kernel
theorem dX0_holds_15 : decode cX0_holds 15 = .ok (.iload_n 1, 1) := by decide +kernel
theorem dX0_holds_16 : decode cX0_holds 16 = .ok (.isub, 1) := by decide +kernel
theorem dX0_holds_17 : decode cX0_holds 17 = .ok (.if_icmp .gt 18, 3) := by decide +kernel
theorem dX0_holds_20 : decode cX0_holds 20 = .ok (.iload 4, 2) := by decide +kernel
theorem dX0_holds_22 : decode cX0_holds 22 = .ok (.aload_n 0, 1) := by decide +kernel
theorem dX0_holds_23 : decode cX0_holds 23 = .ok (.getfield 15, 3) := by decide +kernel
theorem dX0_holds_26 : decode cX0_holds 26 = .ok (.iload_n 2, 1) := by decide +kernel
theorem dX0_holds_27 : decode cX0_holds 27 = .ok (.isub, 1) := by decide +kernel
theorem dX0_holds_28 : decode cX0_holds 28 = .ok (.if_icmp .gt 7, 3) := by decide +kernel
theorem dX0_holds_31 : decode cX0_holds 31 = .ok (.iconst 1, 1) := by decide +kernel
theorem dX0_holds_32 : decode cX0_holds 32 = .ok (.goto 4, 3) := by decide +kernel
theorem dX0_holds_35 : decode cX0_holds 35 = .ok (.iconst 0, 1) := by decide +kernel
theorem dX0_holds_36 : decode cX0_holds 36 = .ok (.ireturn, 1) := by decide +kernel
theorem dX0_hasPlace_0 : decode cX0_hasPlace 0 = .ok (.iload_n 0, 1) := by decide +kernel
theorem dX0_hasPlace_1 : decode cX0_hasPlace 1 = .ok (.ifCond .lt 13, 3) := by decide +kernel
theorem dX0_hasPlace_4 : decode cX0_hasPlace 4 = .ok (.iload_n 0, 1) := by decide +kernel
theorem dX0_hasPlace_5 : decode cX0_hasPlace 5 = .ok (.bipush 100, 2) := by decide +kernel
theorem dX0_hasPlace_7 : decode cX0_hasPlace 7 = .ok (.if_icmp .ge 7, 3) := by decide +kernel
theorem dX0_hasPlace_10 : decode cX0_hasPlace 10 = .ok (.iconst 1, 1) := by decide +kernel
theorem dX0_hasPlace_11 : decode cX0_hasPlace 11 = .ok (.goto 4, 3) := by decide +kernel
theorem dX0_hasPlace_14 : decode cX0_hasPlace 14 = .ok (.iconst 0, 1) := by decide +kernel
theorem dX0_hasPlace_15 : decode cX0_hasPlace 15 = .ok (.ireturn, 1) := by decide +kernel
theorem dX0_kind_0 : decode cX0_kind 0 = .ok (.iload_n 1, 1) := by decide +kernel
theorem dX0_kind_1 : decode cX0_kind 1 = .ok (.invokestatic 41, 3) := by decide +kernel
theorem dX0_kind_4 : decode cX0_kind 4 = .ok (.ifCond .eq 12, 3) := by decide +kernel
theorem dX0_kind_7 : decode cX0_kind 7 = .ok (.aload_n 0, 1) := by decide +kernel
theorem dX0_kind_8 : decode cX0_kind 8 = .ok (.getfield 18, 3) := by decide +kernel
theorem dX0_kind_11 : decode cX0_kind 11 = .ok (.iload_n 1, 1) := by decide +kernel
theorem dX0_kind_12 : decode cX0_kind 12 = .ok (.iaload, 1) := by decide +kernel
theorem dX0_kind_13 : decode cX0_kind 13 = .ok (.goto 4, 3) := by decide +kernel
theorem dX0_kind_16 : decode cX0_kind 16 = .ok (.iconst 0, 1) := by decide +kernel
theorem dX0_kind_17 : decode cX0_kind 17 = .ok (.ireturn, 1) := by decide +kernel
theorem dX0_put_0 : decode cX0_put 0 = .ok (.iload_n 1, 1) := by decide +kernel
theorem dX0_put_1 : decode cX0_put 1 = .ok (.invokestatic 41, 3) := by decide +kernel
theorem dX0_put_4 : decode cX0_put 4 = .ok (.ifCond .eq 10, 3) := by decide +kernel
theorem dX0_put_7 : decode cX0_put 7 = .ok (.aload_n 0, 1) := by decide +kernel
theorem dX0_put_8 : decode cX0_put 8 = .ok (.getfield 18, 3) := by decide +kernel
theorem dX0_put_11 : decode cX0_put 11 = .ok (.iload_n 1, 1) := by decide +kernel
theorem dX0_put_12 : decode cX0_put 12 = .ok (.iload_n 2, 1) := by decide +kernel
theorem dX0_put_13 : decode cX0_put 13 = .ok (.iastore, 1) := by decide +kernel
theorem dX0_put_14 : decode cX0_put 14 = .ok (.return_, 1) := by decide +kernel
theorem dX0_many_0 : decode cX0_many 0 = .ok (.iconst 0, 1) := by decide +kernel
theorem dX0_many_1 : decode cX0_many 1 = .ok (.istore_n 2, 1) := by decide +kernel
theorem dX0_many_2 : decode cX0_many 2 = .ok (.iconst 0, 1) := by decide +kernel
theorem dX0_many_3 : decode cX0_many 3 = .ok (.istore_n 3, 1) := by decide +kernel
theorem dX0_many_4 : decode cX0_many 4 = .ok (.iload_n 3, 1) := by decide +kernel
theorem dX0_many_5 : decode cX0_many 5 = .ok (.aload_n 0, 1) := by decide +kernel
theorem dX0_many_6 : decode cX0_many 6 = .ok (.invokevirtual 45, 3) := by decide +kernel
theorem dX0_many_9 : decode cX0_many 9 = .ok (.if_icmp .ge 21, 3) := by decide +kernel
theorem dX0_many_12 : decode cX0_many 12 = .ok (.aload_n 0, 1) := by decide +kernel
theorem dX0_many_13 : decode cX0_many 13 = .ok (.iload_n 3, 1) := by decide +kernel
theorem dX0_many_14 : decode cX0_many 14 = .ok (.invokevirtual 49, 3) := by decide +kernel
theorem dX0_many_17 : decode cX0_many 17 = .ok (.iload_n 1, 1) := by decide +kernel
theorem dX0_many_18 : decode cX0_many 18 = .ok (.if_icmp .ne 6, 3) := by decide +kernel
theorem dX0_many_21 : decode cX0_many 21 = .ok (.iinc 2 1, 3) := by decide +kernel
theorem dX0_many_24 : decode cX0_many 24 = .ok (.iinc 3 1, 3) := by decide +kernel
theorem dX0_many_27 : decode cX0_many 27 = .ok (.goto (-23), 3) := by decide +kernel
theorem dX0_many_30 : decode cX0_many 30 = .ok (.iload_n 2, 1) := by decide +kernel
theorem dX0_many_31 : decode cX0_many 31 = .ok (.ireturn, 1) := by decide +kernel
theorem dX0_headsAround_0 : decode cX0_headsAround 0 = .ok (.iconst 0, 1) := by decide +kernel
theorem dX0_headsAround_1 : decode cX0_headsAround 1 = .ok (.istore_n 3, 1) := by decide +kernel
theorem dX0_headsAround_2 : decode cX0_headsAround 2 = .ok (.iconst 0, 1) := by decide +kernel
theorem dX0_headsAround_3 : decode cX0_headsAround 3 = .ok (.istore 4, 2) := by decide +kernel
theorem dX0_headsAround_5 : decode cX0_headsAround 5 = .ok (.iload 4, 2) := by decide +kernel
theorem dX0_headsAround_7 : decode cX0_headsAround 7 = .ok (.bipush 8, 2) := by decide +kernel
theorem dX0_headsAround_9 : decode cX0_headsAround 9 = .ok (.if_icmp .ge 28, 3) := by decide +kernel
theorem dX0_headsAround_12 : decode cX0_headsAround 12 = .ok (.aload_n 0, 1) := by decide +kernel
theorem dX0_headsAround_13 : decode cX0_headsAround 13 = .ok (.aload_n 0, 1) := by decide +kernel
theorem dX0_headsAround_14 : decode cX0_headsAround 14 = .ok (.iload_n 1, 1) := by decide +kernel
theorem dX0_headsAround_15 : decode cX0_headsAround 15 = .ok (.iload_n 2, 1) := by decide +kernel
theorem dX0_headsAround_16 : decode cX0_headsAround 16 = .ok (.iload 4, 2) := by decide +kernel
theorem dX0_headsAround_18 : decode cX0_headsAround 18 = .ok (.invokevirtual 53, 3) := by decide +kernel
theorem dX0_headsAround_21 : decode cX0_headsAround 21 = .ok (.invokevirtual 49, 3) := by decide +kernel
theorem dX0_headsAround_24 : decode cX0_headsAround 24 = .ok (.iconst 2, 1) := by decide +kernel
theorem dX0_headsAround_25 : decode cX0_headsAround 25 = .ok (.if_icmp .ne 6, 3) := by decide +kernel
theorem dX0_headsAround_28 : decode cX0_headsAround 28 = .ok (.iinc 3 1, 3) := by decide +kernel
theorem dX0_headsAround_31 : decode cX0_headsAround 31 = .ok (.iinc 4 1, 3) := by decide +kernel
theorem dX0_headsAround_34 : decode cX0_headsAround 34 = .ok (.goto (-29), 3) := by decide +kernel
theorem dX0_headsAround_37 : decode cX0_headsAround 37 = .ok (.iload_n 3, 1) := by decide +kernel
theorem dX0_headsAround_38 : decode cX0_headsAround 38 = .ok (.ireturn, 1) := by decide +kernel
theorem dX0_wiredAround_0 : decode cX0_wiredAround 0 = .ok (.iconst 0, 1) := by decide +kernel
theorem dX0_wiredAround_1 : decode cX0_wiredAround 1 = .ok (.istore_n 3, 1) := by decide +kernel
theorem dX0_wiredAround_2 : decode cX0_wiredAround 2 = .ok (.iconst 0, 1) := by decide +kernel
theorem dX0_wiredAround_3 : decode cX0_wiredAround 3 = .ok (.istore 4, 2) := by decide +kernel
theorem dX0_wiredAround_5 : decode cX0_wiredAround 5 = .ok (.iload 4, 2) := by decide +kernel
theorem dX0_wiredAround_7 : decode cX0_wiredAround 7 = .ok (.bipush 8, 2) := by decide +kernel
theorem dX0_wiredAround_9 : decode cX0_wiredAround 9 = .ok (.if_icmp .ge 27, 3) := by decide +kernel
theorem dX0_wiredAround_12 : decode cX0_wiredAround 12 = .ok (.aload_n 0, 1) := by decide +kernel
theorem dX0_wiredAround_13 : decode cX0_wiredAround 13 = .ok (.aload_n 0, 1) := by decide +kernel
theorem dX0_wiredAround_14 : decode cX0_wiredAround 14 = .ok (.iload_n 1, 1) := by decide +kernel
theorem dX0_wiredAround_15 : decode cX0_wiredAround 15 = .ok (.iload_n 2, 1) := by decide +kernel
theorem dX0_wiredAround_16 : decode cX0_wiredAround 16 = .ok (.iload 4, 2) := by decide +kernel
theorem dX0_wiredAround_18 : decode cX0_wiredAround 18 = .ok (.invokevirtual 53, 3) := by decide +kernel
theorem dX0_wiredAround_21 : decode cX0_wiredAround 21 = .ok (.invokevirtual 49, 3) := by decide +kernel
theorem dX0_wiredAround_24 : decode cX0_wiredAround 24 = .ok (.ifCond .eq 6, 3) := by decide +kernel
theorem dX0_wiredAround_27 : decode cX0_wiredAround 27 = .ok (.iinc 3 1, 3) := by decide +kernel
theorem dX0_wiredAround_30 : decode cX0_wiredAround 30 = .ok (.iinc 4 1, 3) := by decide +kernel
theorem dX0_wiredAround_33 : decode cX0_wiredAround 33 = .ok (.goto (-28), 3) := by decide +kernel
theorem dX0_wiredAround_36 : decode cX0_wiredAround 36 = .ok (.iload_n 3, 1) := by decide +kernel
theorem dX0_wiredAround_37 : decode cX0_wiredAround 37 = .ok (.ireturn, 1) := by decide +kernel
theorem dX0_neighbour_0 : decode cX0_neighbour 0 = .ok (.aload_n 0, 1) := by decide +kernel
theorem dX0_neighbour_1 : decode cX0_neighbour 1 = .ok (.iload_n 1, 1) := by decide +kernel
theorem dX0_neighbour_2 : decode cX0_neighbour 2 = .ok (.getstatic 57, 3) := by decide +kernel
theorem dX0_neighbour_5 : decode cX0_neighbour 5 = .ok (.iload_n 3, 1) := by decide +kernel
theorem dX0_neighbour_6 : decode cX0_neighbour 6 = .ok (.iaload, 1) := by decide +kernel
theorem dX0_neighbour_7 : decode cX0_neighbour 7 = .ok (.iadd, 1) := by decide +kernel
theorem dX0_neighbour_8 : decode cX0_neighbour 8 = .ok (.iload_n 2, 1) := by decide +kernel
theorem dX0_neighbour_9 : decode cX0_neighbour 9 = .ok (.getstatic 60, 3) := by decide +kernel
theorem dX0_neighbour_12 : decode cX0_neighbour 12 = .ok (.iload_n 3, 1) := by decide +kernel
theorem dX0_neighbour_13 : decode cX0_neighbour 13 = .ok (.iaload, 1) := by decide +kernel
theorem dX0_neighbour_14 : decode cX0_neighbour 14 = .ok (.iadd, 1) := by decide +kernel
theorem dX0_neighbour_15 : decode cX0_neighbour 15 = .ok (.invokevirtual 37, 3) := by decide +kernel
theorem dX0_neighbour_18 : decode cX0_neighbour 18 = .ok (.ireturn, 1) := by decide +kernel
theorem dX0_next_0 : decode cX0_next 0 = .ok (.iload_n 0, 1) := by decide +kernel
theorem dX0_next_1 : decode cX0_next 1 = .ok (.tableswitch 47 1 3 #[31, 27, 29], 27) := by decide +kernel
theorem dX0_next_28 : decode cX0_next 28 = .ok (.iconst 3, 1) := by decide +kernel
theorem dX0_next_29 : decode cX0_next 29 = .ok (.ireturn, 1) := by decide +kernel
theorem dX0_next_30 : decode cX0_next 30 = .ok (.iconst 1, 1) := by decide +kernel
theorem dX0_next_31 : decode cX0_next 31 = .ok (.ireturn, 1) := by decide +kernel
theorem dX0_next_32 : decode cX0_next 32 = .ok (.iload_n 1, 1) := by decide +kernel
theorem dX0_next_33 : decode cX0_next 33 = .ok (.iconst 1, 1) := by decide +kernel
theorem dX0_next_34 : decode cX0_next 34 = .ok (.if_icmp .eq 8, 3) := by decide +kernel
theorem dX0_next_37 : decode cX0_next 37 = .ok (.iload_n 1, 1) := by decide +kernel
theorem dX0_next_38 : decode cX0_next 38 = .ok (.iconst 2, 1) := by decide +kernel
theorem dX0_next_39 : decode cX0_next 39 = .ok (.if_icmp .ne 7, 3) := by decide +kernel
theorem dX0_next_42 : decode cX0_next 42 = .ok (.iconst 2, 1) := by decide +kernel
theorem dX0_next_43 : decode cX0_next 43 = .ok (.goto 4, 3) := by decide +kernel
theorem dX0_next_46 : decode cX0_next 46 = .ok (.iconst 1, 1) := by decide +kernel
theorem dX0_next_47 : decode cX0_next 47 = .ok (.ireturn, 1) := by decide +kernel
theorem dX0_next_48 : decode cX0_next 48 = .ok (.iconst 0, 1) := by decide +kernel
theorem dX0_next_49 : decode cX0_next 49 = .ok (.ireturn, 1) := by decide +kernel
theorem dX0_step_0 : decode cX0_step 0 = .ok (.aload_n 0, 1) := by decide +kernel
theorem dX0_step_1 : decode cX0_step 1 = .ok (.invokevirtual 63, 3) := by decide +kernel
theorem dX0_step_4 : decode cX0_step 4 = .ok (.iconst 0, 1) := by decide +kernel
theorem dX0_step_5 : decode cX0_step 5 = .ok (.istore_n 1, 1) := by decide +kernel
theorem dX0_step_6 : decode cX0_step 6 = .ok (.iload_n 1, 1) := by decide +kernel
theorem dX0_step_7 : decode cX0_step 7 = .ok (.bipush 100, 2) := by decide +kernel
theorem dX0_step_9 : decode cX0_step 9 = .ok (.if_icmp .ge 30, 3) := by decide +kernel
theorem dX0_step_12 : decode cX0_step 12 = .ok (.aload_n 0, 1) := by decide +kernel
theorem dX0_step_13 : decode cX0_step 13 = .ok (.getfield 18, 3) := by decide +kernel
theorem dX0_step_16 : decode cX0_step 16 = .ok (.iload_n 1, 1) := by decide +kernel
theorem dX0_step_17 : decode cX0_step 17 = .ok (.aload_n 0, 1) := by decide +kernel
theorem dX0_step_18 : decode cX0_step 18 = .ok (.getfield 18, 3) := by decide +kernel
theorem dX0_step_21 : decode cX0_step 21 = .ok (.iload_n 1, 1) := by decide +kernel
theorem dX0_step_22 : decode cX0_step 22 = .ok (.iaload, 1) := by decide +kernel
theorem dX0_step_23 : decode cX0_step 23 = .ok (.aload_n 0, 1) := by decide +kernel
theorem dX0_step_24 : decode cX0_step 24 = .ok (.getfield 22, 3) := by decide +kernel
theorem dX0_step_27 : decode cX0_step 27 = .ok (.iload_n 1, 1) := by decide +kernel
theorem dX0_step_28 : decode cX0_step 28 = .ok (.iaload, 1) := by decide +kernel
theorem dX0_step_29 : decode cX0_step 29 = .ok (.invokestatic 66, 3) := by decide +kernel
theorem dX0_step_32 : decode cX0_step 32 = .ok (.iastore, 1) := by decide +kernel
theorem dX0_step_33 : decode cX0_step 33 = .ok (.iinc 1 1, 3) := by decide +kernel
theorem dX0_step_36 : decode cX0_step 36 = .ok (.goto (-30), 3) := by decide +kernel
theorem dX0_step_39 : decode cX0_step 39 = .ok (.return_, 1) := by decide +kernel
theorem dX0_countHeadsBeside_0 : decode cX0_countHeadsBeside 0 = .ok (.aload_n 0, 1) := by decide +kernel
theorem dX0_countHeadsBeside_1 : decode cX0_countHeadsBeside 1 = .ok (.getfield 22, 3) := by decide +kernel
theorem dX0_countHeadsBeside_4 : decode cX0_countHeadsBeside 4 = .ok (.iconst 0, 1) := by decide +kernel
theorem dX0_countHeadsBeside_5 : decode cX0_countHeadsBeside 5 = .ok (.invokestatic 25, 3) := by decide +kernel
theorem dX0_countHeadsBeside_8 : decode cX0_countHeadsBeside 8 = .ok (.iconst 0, 1) := by decide +kernel
theorem dX0_countHeadsBeside_9 : decode cX0_countHeadsBeside 9 = .ok (.istore_n 1, 1) := by decide +kernel
theorem dX0_countHeadsBeside_10 : decode cX0_countHeadsBeside 10 = .ok (.iload_n 1, 1) := by decide +kernel
theorem dX0_countHeadsBeside_11 : decode cX0_countHeadsBeside 11 = .ok (.aload_n 0, 1) := by decide +kernel
theorem dX0_countHeadsBeside_12 : decode cX0_countHeadsBeside 12 = .ok (.getfield 15, 3) := by decide +kernel
theorem dX0_countHeadsBeside_15 : decode cX0_countHeadsBeside 15 = .ok (.if_icmp .ge 45, 3) := by decide +kernel
theorem dX0_countHeadsBeside_18 : decode cX0_countHeadsBeside 18 = .ok (.iconst 0, 1) := by decide +kernel
theorem dX0_countHeadsBeside_19 : decode cX0_countHeadsBeside 19 = .ok (.istore_n 2, 1) := by decide +kernel
theorem dX0_countHeadsBeside_20 : decode cX0_countHeadsBeside 20 = .ok (.iload_n 2, 1) := by decide +kernel
theorem dX0_countHeadsBeside_21 : decode cX0_countHeadsBeside 21 = .ok (.aload_n 0, 1) := by decide +kernel
theorem dX0_countHeadsBeside_22 : decode cX0_countHeadsBeside 22 = .ok (.getfield 9, 3) := by decide +kernel
theorem dX0_countHeadsBeside_25 : decode cX0_countHeadsBeside 25 = .ok (.if_icmp .ge 29, 3) := by decide +kernel
theorem dX0_countHeadsBeside_28 : decode cX0_countHeadsBeside 28 = .ok (.aload_n 0, 1) := by decide +kernel
theorem dX0_countHeadsBeside_29 : decode cX0_countHeadsBeside 29 = .ok (.aload_n 0, 1) := by decide +kernel
theorem dX0_countHeadsBeside_30 : decode cX0_countHeadsBeside 30 = .ok (.iload_n 2, 1) := by decide +kernel
theorem dX0_countHeadsBeside_31 : decode cX0_countHeadsBeside 31 = .ok (.iload_n 1, 1) := by decide +kernel
theorem dX0_countHeadsBeside_32 : decode cX0_countHeadsBeside 32 = .ok (.invokevirtual 37, 3) := by decide +kernel
theorem dX0_countHeadsBeside_35 : decode cX0_countHeadsBeside 35 = .ok (.invokevirtual 49, 3) := by decide +kernel
theorem dX0_countHeadsBeside_38 : decode cX0_countHeadsBeside 38 = .ok (.iconst 2, 1) := by decide +kernel
theorem dX0_countHeadsBeside_39 : decode cX0_countHeadsBeside 39 = .ok (.if_icmp .ne 9, 3) := by decide +kernel
theorem dX0_countHeadsBeside_42 : decode cX0_countHeadsBeside 42 = .ok (.aload_n 0, 1) := by decide +kernel
theorem dX0_countHeadsBeside_43 : decode cX0_countHeadsBeside 43 = .ok (.iload_n 2, 1) := by decide +kernel
theorem dX0_countHeadsBeside_44 : decode cX0_countHeadsBeside 44 = .ok (.iload_n 1, 1) := by decide +kernel
theorem dX0_countHeadsBeside_45 : decode cX0_countHeadsBeside 45 = .ok (.invokevirtual 69, 3) := by decide +kernel
theorem dX0_countHeadsBeside_48 : decode cX0_countHeadsBeside 48 = .ok (.iinc 2 1, 3) := by decide +kernel
theorem dX0_countHeadsBeside_51 : decode cX0_countHeadsBeside 51 = .ok (.goto (-31), 3) := by decide +kernel
theorem dX0_countHeadsBeside_54 : decode cX0_countHeadsBeside 54 = .ok (.iinc 1 1, 3) := by decide +kernel
theorem dX0_countHeadsBeside_57 : decode cX0_countHeadsBeside 57 = .ok (.goto (-47), 3) := by decide +kernel
theorem dX0_countHeadsBeside_60 : decode cX0_countHeadsBeside 60 = .ok (.return_, 1) := by decide +kernel
theorem dX0_tellNeighbours_0 : decode cX0_tellNeighbours 0 = .ok (.iconst 0, 1) := by decide +kernel
theorem dX0_tellNeighbours_1 : decode cX0_tellNeighbours 1 = .ok (.istore_n 3, 1) := by decide +kernel
theorem dX0_tellNeighbours_2 : decode cX0_tellNeighbours 2 = .ok (.iload_n 3, 1) := by decide +kernel
theorem dX0_tellNeighbours_3 : decode cX0_tellNeighbours 3 = .ok (.bipush 8, 2) := by decide +kernel
theorem dX0_tellNeighbours_5 : decode cX0_tellNeighbours 5 = .ok (.if_icmp .ge 37, 3) := by decide +kernel
theorem dX0_tellNeighbours_8 : decode cX0_tellNeighbours 8 = .ok (.aload_n 0, 1) := by decide +kernel
theorem dX0_tellNeighbours_9 : decode cX0_tellNeighbours 9 = .ok (.iload_n 1, 1) := by decide +kernel
theorem dX0_tellNeighbours_10 : decode cX0_tellNeighbours 10 = .ok (.iload_n 2, 1) := by decide +kernel
theorem dX0_tellNeighbours_11 : decode cX0_tellNeighbours 11 = .ok (.iload_n 3, 1) := by decide +kernel
theorem dX0_tellNeighbours_12 : decode cX0_tellNeighbours 12 = .ok (.invokevirtual 53, 3) := by decide +kernel
theorem dX0_tellNeighbours_15 : decode cX0_tellNeighbours 15 = .ok (.istore 4, 2) := by decide +kernel
theorem dX0_tellNeighbours_17 : decode cX0_tellNeighbours 17 = .ok (.iload 4, 2) := by decide +kernel
theorem dX0_tellNeighbours_19 : decode cX0_tellNeighbours 19 = .ok (.invokestatic 41, 3) := by decide +kernel
theorem dX0_tellNeighbours_22 : decode cX0_tellNeighbours 22 = .ok (.ifCond .eq 14, 3) := by decide +kernel
theorem dX0_tellNeighbours_25 : decode cX0_tellNeighbours 25 = .ok (.aload_n 0, 1) := by decide +kernel
theorem dX0_tellNeighbours_26 : decode cX0_tellNeighbours 26 = .ok (.getfield 22, 3) := by decide +kernel
theorem dX0_tellNeighbours_29 : decode cX0_tellNeighbours 29 = .ok (.iload 4, 2) := by decide +kernel
theorem dX0_tellNeighbours_31 : decode cX0_tellNeighbours 31 = .ok (.dup2, 1) := by decide +kernel
theorem dX0_tellNeighbours_32 : decode cX0_tellNeighbours 32 = .ok (.iaload, 1) := by decide +kernel
theorem dX0_tellNeighbours_33 : decode cX0_tellNeighbours 33 = .ok (.iconst 1, 1) := by decide +kernel
theorem dX0_tellNeighbours_34 : decode cX0_tellNeighbours 34 = .ok (.iadd, 1) := by decide +kernel
theorem dX0_tellNeighbours_35 : decode cX0_tellNeighbours 35 = .ok (.iastore, 1) := by decide +kernel
theorem dX0_tellNeighbours_36 : decode cX0_tellNeighbours 36 = .ok (.iinc 3 1, 3) := by decide +kernel
theorem dX0_tellNeighbours_39 : decode cX0_tellNeighbours 39 = .ok (.goto (-37), 3) := by decide +kernel
theorem dX0_tellNeighbours_42 : decode cX0_tellNeighbours 42 = .ok (.return_, 1) := by decide +kernel
set_option maxRecDepth 20000 in
theorem ggX0_clear_J7_fill_53178 : GoodIn wsX0_clear wsJ7_fill_53178 := goodIn_r _ [7] (by decide +kernel) (by decide +kernel)
set_option maxRecDepth 20000 in
theorem gX0_clear_J7_fill_53178 : GoodIn wsX0_clear (va_wsS RX0 25 yJ7_fill_53178 wsJ7_fill_53178) := goodIn_app (goodIn_of _ (by decide +kernel)) ggX0_clear_J7_fill_53178
set_option maxRecDepth 20000 in
theorem ggX0_holds_X0_cell : GoodIn wsX0_holds wsX0_cell := goodIn_r _ [7, 1, 2, 8, 9, 10, 11] (by decide +kernel) (by decide +kernel)
set_option maxRecDepth 20000 in
theorem gX0_holds_X0_cell : GoodIn wsX0_holds (wsV RX0 37 RX0 yX0_cell wsX0_cell) := goodIn_app (goodIn_of _ (by decide +kernel)) ggX0_holds_X0_cell
set_option maxRecDepth 20000 in
theorem ggX0_kind_X0_hasPlace : GoodIn wsX0_kind wsX0_hasPlace := goodIn_r _ [5] (by decide +kernel) (by decide +kernel)
set_option maxRecDepth 20000 in
theorem gX0_kind_X0_hasPlace : GoodIn wsX0_kind (va_wsS RX0 41 yX0_hasPlace wsX0_hasPlace) := goodIn_app (goodIn_of _ (by decide +kernel)) ggX0_kind_X0_hasPlace
set_option maxRecDepth 20000 in
theorem ggX0_put_X0_hasPlace : GoodIn wsX0_put wsX0_hasPlace := goodIn_r _ [5] (by decide +kernel) (by decide +kernel)
set_option maxRecDepth 20000 in
theorem gX0_put_X0_hasPlace : GoodIn wsX0_put (va_wsS RX0 41 yX0_hasPlace wsX0_hasPlace) := goodIn_app (goodIn_of _ (by decide +kernel)) ggX0_put_X0_hasPlace
set_option maxRecDepth 20000 in
theorem ggX0_many_X0_size : GoodIn wsX0_many wsX0_size := goodIn_r _ [5, 6, 7, 16, 17, 18, 19] (by decide +kernel) (by decide +kernel)
set_option maxRecDepth 20000 in
theorem gX0_many_X0_size : GoodIn wsX0_many (wsV RX0 45 RX0 yX0_size wsX0_size) := goodIn_app (goodIn_of _ (by decide +kernel)) ggX0_many_X0_size
set_option maxRecDepth 20000 in
theorem ggX0_many_X0_kind : GoodIn wsX0_many wsX0_kind := goodIn_r _ [11, 12, 13, 14, 4, 15, 16, 17, 18, 19] (by decide +kernel) (by decide +kernel)
set_option maxRecDepth 20000 in
theorem gX0_many_X0_kind : GoodIn wsX0_many (wsV RX0 49 RX0 yX0_kind wsX0_kind) := goodIn_app (goodIn_of _ (by decide +kernel)) ggX0_many_X0_kind
set_option maxRecDepth 20000 in
theorem ggX0_headsAround_X0_neighbour : GoodIn wsX0_headsAround wsX0_neighbour := goodIn_r _ [5, 6, 7, 8, 4, 9, 10, 11, 20, 21, 22, 23] (by decide +kernel) (by decide +kernel)
set_option maxRecDepth 20000 in
theorem gX0_headsAround_X0_neighbour : GoodIn wsX0_headsAround (wsV RX0 53 RX0 yX0_neighbour wsX0_neighbour) := goodIn_app (goodIn_of _ (by decide +kernel)) ggX0_headsAround_X0_neighbour
set_option maxRecDepth 20000 in
theorem ggX0_headsAround_X0_kind : GoodIn wsX0_headsAround wsX0_kind := goodIn_r _ [15, 16, 17, 18, 4, 19, 20, 21, 22, 23] (by decide +kernel) (by decide +kernel)
set_option maxRecDepth 20000 in
theorem gX0_headsAround_X0_kind : GoodIn wsX0_headsAround (wsV RX0 49 RX0 yX0_kind wsX0_kind) := goodIn_app (goodIn_of _ (by decide +kernel)) ggX0_headsAround_X0_kind
set_option maxRecDepth 20000 in
theorem ggX0_wiredAround_X0_neighbour : GoodIn wsX0_wiredAround wsX0_neighbour := goodIn_r _ [5, 6, 7, 8, 4, 9, 10, 11, 20, 21, 22, 23] (by decide +kernel) (by decide +kernel)
set_option maxRecDepth 20000 in
theorem gX0_wiredAround_X0_neighbour : GoodIn wsX0_wiredAround (wsV RX0 53 RX0 yX0_neighbour wsX0_neighbour) := goodIn_app (goodIn_of _ (by decide +kernel)) ggX0_wiredAround_X0_neighbour
set_option maxRecDepth 20000 in
theorem ggX0_wiredAround_X0_kind : GoodIn wsX0_wiredAround wsX0_kind := goodIn_r _ [15, 16, 17, 18, 4, 19, 20, 21, 22, 23] (by decide +kernel) (by decide +kernel)
set_option maxRecDepth 20000 in
theorem gX0_wiredAround_X0_kind : GoodIn wsX0_wiredAround (wsV RX0 49 RX0 yX0_kind wsX0_kind) := goodIn_app (goodIn_of _ (by decide +kernel)) ggX0_wiredAround_X0_kind
set_option maxRecDepth 20000 in
theorem ggX0_neighbour_X0_cell : GoodIn wsX0_neighbour wsX0_cell := goodIn_r _ [5, 6, 7, 8, 9, 10, 11] (by decide +kernel) (by decide +kernel)
set_option maxRecDepth 20000 in
theorem gX0_neighbour_X0_cell : GoodIn wsX0_neighbour (wsV RX0 37 RX0 yX0_cell wsX0_cell) := goodIn_app (goodIn_of _ (by decide +kernel)) ggX0_neighbour_X0_cell
set_option maxRecDepth 20000 in
theorem ggX0_step_X0_countHeadsBeside : GoodIn wsX0_step wsX0_countHeadsBeside := goodIn_r _ [7, 2, 8, 9, 10, 11, 12, 13, 14, 15, 16, 6, 17, 18, 19, 20, 21, 1, 22, 23, 24, 25, 26, 27, 28, 29, 30, 31, 32, 36, 37, 38, 39] (by decide +kernel) (by decide +kernel)
set_option maxRecDepth 20000 in
theorem gX0_step_X0_countHeadsBeside : GoodIn wsX0_step (wsV RX0 63 RX0 yX0_countHeadsBeside wsX0_countHeadsBeside) := goodIn_app (goodIn_of _ (by decide +kernel)) ggX0_step_X0_countHeadsBeside
set_option maxRecDepth 20000 in
theorem ggX0_step_X0_next : GoodIn wsX0_step wsX0_next := goodIn_r _ [35] (by decide +kernel) (by decide +kernel)
set_option maxRecDepth 20000 in
theorem gX0_step_X0_next : GoodIn wsX0_step (va_wsS RX0 66 yX0_next wsX0_next) := goodIn_app (goodIn_of _ (by decide +kernel)) ggX0_step_X0_next
set_option maxRecDepth 20000 in
theorem ggX0_countHeadsBeside_J7_fill_53178 : GoodIn wsX0_countHeadsBeside wsJ7_fill_53178 := goodIn_r _ [7] (by decide +kernel) (by decide +kernel)
set_option maxRecDepth 20000 in
theorem gX0_countHeadsBeside_J7_fill_53178 : GoodIn wsX0_countHeadsBeside (va_wsS RX0 25 yJ7_fill_53178 wsJ7_fill_53178) := goodIn_app (goodIn_of _ (by decide +kernel)) ggX0_countHeadsBeside_J7_fill_53178
set_option maxRecDepth 20000 in
theorem ggX0_countHeadsBeside_X0_cell : GoodIn wsX0_countHeadsBeside wsX0_cell := goodIn_r _ [12, 3, 2, 29, 30, 31, 32] (by decide +kernel) (by decide +kernel)
set_option maxRecDepth 20000 in
theorem gX0_countHeadsBeside_X0_cell : GoodIn wsX0_countHeadsBeside (wsV RX0 37 RX0 yX0_cell wsX0_cell) := goodIn_app (goodIn_of _ (by decide +kernel)) ggX0_countHeadsBeside_X0_cell
set_option maxRecDepth 20000 in
theorem ggX0_countHeadsBeside_X0_kind : GoodIn wsX0_countHeadsBeside wsX0_kind := goodIn_r _ [16, 17, 18, 19, 11, 20, 29, 30, 31, 32] (by decide +kernel) (by decide +kernel)
set_option maxRecDepth 20000 in
theorem gX0_countHeadsBeside_X0_kind : GoodIn wsX0_countHeadsBeside (wsV RX0 49 RX0 yX0_kind wsX0_kind) := goodIn_app (goodIn_of _ (by decide +kernel)) ggX0_countHeadsBeside_X0_kind
set_option maxRecDepth 20000 in
theorem ggX0_countHeadsBeside_X0_tellNeighbours : GoodIn wsX0_countHeadsBeside wsX0_tellNeighbours := goodIn_r _ [24, 1, 25, 26, 27, 11, 28, 8, 9, 10, 12, 3, 2, 18, 19, 20, 29, 30, 31, 32] (by decide +kernel) (by decide +kernel)
set_option maxRecDepth 20000 in
theorem gX0_countHeadsBeside_X0_tellNeighbours : GoodIn wsX0_countHeadsBeside (wsV RX0 69 RX0 yX0_tellNeighbours wsX0_tellNeighbours) := goodIn_app (goodIn_of _ (by decide +kernel)) ggX0_countHeadsBeside_X0_tellNeighbours
set_option maxRecDepth 20000 in
theorem ggX0_tellNeighbours_X0_neighbour : GoodIn wsX0_tellNeighbours wsX0_neighbour := goodIn_r _ [6, 7, 8, 9, 5, 10, 11, 12, 16, 17, 18, 19] (by decide +kernel) (by decide +kernel)
set_option maxRecDepth 20000 in
theorem gX0_tellNeighbours_X0_neighbour : GoodIn wsX0_tellNeighbours (wsV RX0 53 RX0 yX0_neighbour wsX0_neighbour) := goodIn_app (goodIn_of _ (by decide +kernel)) ggX0_tellNeighbours_X0_neighbour
set_option maxRecDepth 20000 in
theorem ggX0_tellNeighbours_X0_hasPlace : GoodIn wsX0_tellNeighbours wsX0_hasPlace := goodIn_r _ [15] (by decide +kernel) (by decide +kernel)
set_option maxRecDepth 20000 in
theorem gX0_tellNeighbours_X0_hasPlace : GoodIn wsX0_tellNeighbours (va_wsS RX0 41 yX0_hasPlace wsX0_hasPlace) := goodIn_app (goodIn_of _ (by decide +kernel)) ggX0_tellNeighbours_X0_hasPlace
