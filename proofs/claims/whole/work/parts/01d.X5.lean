theorem dX5_init_0 : decode cX5_init 0 = .ok (.aload_n 0, 1) := by decide +kernel
theorem dX5_init_1 : decode cX5_init 1 = .ok (.invokespecial 1, 3) := by decide +kernel
theorem dX5_init_4 : decode cX5_init 4 = .ok (.aload_n 0, 1) := by decide +kernel
theorem dX5_init_5 : decode cX5_init 5 = .ok (.bipush 8, 2) := by decide +kernel
theorem dX5_init_7 : decode cX5_init 7 = .ok (.putfield 7, 3) := by decide +kernel
theorem dX5_init_10 : decode cX5_init 10 = .ok (.aload_n 0, 1) := by decide +kernel
theorem dX5_init_11 : decode cX5_init 11 = .ok (.bipush 6, 2) := by decide +kernel
theorem dX5_init_13 : decode cX5_init 13 = .ok (.putfield 13, 3) := by decide +kernel
theorem dX5_init_16 : decode cX5_init 16 = .ok (.aload_n 0, 1) := by decide +kernel
theorem dX5_init_17 : decode cX5_init 17 = .ok (.sipush 144, 3) := by decide +kernel
theorem dX5_init_20 : decode cX5_init 20 = .ok (.newarray .int, 2) := by decide +kernel
theorem dX5_init_22 : decode cX5_init 22 = .ok (.putfield 16, 3) := by decide +kernel
theorem dX5_init_25 : decode cX5_init 25 = .ok (.aload_n 0, 1) := by decide +kernel
theorem dX5_init_26 : decode cX5_init 26 = .ok (.sipush 144, 3) := by decide +kernel
theorem dX5_init_29 : decode cX5_init 29 = .ok (.newarray .int, 2) := by decide +kernel
theorem dX5_init_31 : decode cX5_init 31 = .ok (.putfield 20, 3) := by decide +kernel
theorem dX5_init_34 : decode cX5_init 34 = .ok (.aload_n 0, 1) := by decide +kernel
theorem dX5_init_35 : decode cX5_init 35 = .ok (.sipush 144, 3) := by decide +kernel
theorem dX5_init_38 : decode cX5_init 38 = .ok (.newarray .int, 2) := by decide +kernel
theorem dX5_init_40 : decode cX5_init 40 = .ok (.putfield 23, 3) := by decide +kernel
theorem dX5_init_43 : decode cX5_init 43 = .ok (.aload_n 0, 1) := by decide +kernel
theorem dX5_init_44 : decode cX5_init 44 = .ok (.bipush 20, 2) := by decide +kernel
theorem dX5_init_46 : decode cX5_init 46 = .ok (.newarray .int, 2) := by decide +kernel
theorem dX5_init_48 : decode cX5_init 48 = .ok (.putfield 26, 3) := by decide +kernel
theorem dX5_init_51 : decode cX5_init 51 = .ok (.aload_n 0, 1) := by decide +kernel
theorem dX5_init_52 : decode cX5_init 52 = .ok (.bipush 20, 2) := by decide +kernel
theorem dX5_init_54 : decode cX5_init 54 = .ok (.newarray .int, 2) := by decide +kernel
theorem dX5_init_56 : decode cX5_init 56 = .ok (.putfield 29, 3) := by decide +kernel
theorem dX5_init_59 : decode cX5_init 59 = .ok (.aload_n 0, 1) := by decide +kernel
theorem dX5_init_60 : decode cX5_init 60 = .ok (.sipush 13104, 3) := by decide +kernel
theorem dX5_init_63 : decode cX5_init 63 = .ok (.newarray .int, 2) := by decide +kernel
theorem dX5_init_65 : decode cX5_init 65 = .ok (.putfield 32, 3) := by decide +kernel
theorem dX5_init_68 : decode cX5_init 68 = .ok (.aload_n 0, 1) := by decide +kernel
theorem dX5_init_69 : decode cX5_init 69 = .ok (.sipush 144, 3) := by decide +kernel
theorem dX5_init_72 : decode cX5_init 72 = .ok (.newarray .int, 2) := by decide +kernel
theorem dX5_init_74 : decode cX5_init 74 = .ok (.putfield 35, 3) := by decide +kernel
theorem dX5_init_77 : decode cX5_init 77 = .ok (.aload_n 0, 1) := by decide +kernel
theorem dX5_init_78 : decode cX5_init 78 = .ok (.sipush 144, 3) := by decide +kernel
theorem dX5_init_81 : decode cX5_init 81 = .ok (.newarray .int, 2) := by decide +kernel
theorem dX5_init_83 : decode cX5_init 83 = .ok (.putfield 38, 3) := by decide +kernel
theorem dX5_init_86 : decode cX5_init 86 = .ok (.return_, 1) := by decide +kernel
theorem dX5_thrown_0 : decode cX5_thrown 0 = .ok (.aload_n 0, 1) := by decide +kernel
theorem dX5_thrown_1 : decode cX5_thrown 1 = .ok (.getfield 41, 3) := by decide +kernel
theorem dX5_thrown_4 : decode cX5_thrown 4 = .ok (.ireturn, 1) := by decide +kernel
theorem dX5_fail_0 : decode cX5_fail 0 = .ok (.aload_n 0, 1) := by decide +kernel
theorem dX5_fail_1 : decode cX5_fail 1 = .ok (.iload_n 1, 1) := by decide +kernel
theorem dX5_fail_2 : decode cX5_fail 2 = .ok (.putfield 41, 3) := by decide +kernel
theorem dX5_fail_5 : decode cX5_fail 5 = .ok (.iconst 0, 1) := by decide +kernel
theorem dX5_fail_6 : decode cX5_fail 6 = .ok (.ireturn, 1) := by decide +kernel
theorem dX5_isIn_0 : decode cX5_isIn 0 = .ok (.iload_n 0, 1) := by decide +kernel
theorem dX5_isIn_1 : decode cX5_isIn 1 = .ok (.iload_n 1, 1) := by decide +kernel
theorem dX5_isIn_2 : decode cX5_isIn 2 = .ok (.if_icmp .lt 12, 3) := by decide +kernel
theorem dX5_isIn_5 : decode cX5_isIn 5 = .ok (.iload_n 0, 1) := by decide +kernel
theorem dX5_isIn_6 : decode cX5_isIn 6 = .ok (.iload_n 2, 1) := by decide +kernel
theorem dX5_isIn_7 : decode cX5_isIn 7 = .ok (.if_icmp .gt 7, 3) := by decide +kernel
theorem dX5_isIn_10 : decode cX5_isIn 10 = .ok (.iconst 1, 1) := by decide +kernel
theorem dX5_isIn_11 : decode cX5_isIn 11 = .ok (.goto 4, 3) := by decide +kernel
theorem dX5_isIn_14 : decode cX5_isIn 14 = .ok (.iconst 0, 1) := by decide +kernel
theorem dX5_isIn_15 : decode cX5_isIn 15 = .ok (.ireturn, 1) := by decide +kernel
theorem dX5_isCell_0 : decode cX5_isCell 0 = .ok (.iload_n 1, 1) := by decide +kernel
theorem dX5_isCell_1 : decode cX5_isCell 1 = .ok (.iconst 0, 1) := by decide +kernel
theorem dX5_isCell_2 : decode cX5_isCell 2 = .ok (.aload_n 0, 1) := by decide +kernel
theorem dX5_isCell_3 : decode cX5_isCell 3 = .ok (.getfield 7, 3) := by decide +kernel
theorem dX5_isCell_6 : decode cX5_isCell 6 = .ok (.iconst 1, 1) := by decide +kernel
theorem dX5_isCell_7 : decode cX5_isCell 7 = .ok (.isub, 1) := by decide +kernel
theorem dX5_isCell_8 : decode cX5_isCell 8 = .ok (.invokestatic 44, 3) := by decide +kernel
theorem dX5_isCell_11 : decode cX5_isCell 11 = .ok (.ifCond .eq 21, 3) := by decide +kernel
theorem dX5_isCell_14 : decode cX5_isCell 14 = .ok (.iload_n 2, 1) := by decide +kernel
theorem dX5_isCell_15 : decode cX5_isCell 15 = .ok (.iconst 0, 1) := by decide +kernel
theorem dX5_isCell_16 : decode cX5_isCell 16 = .ok (.aload_n 0, 1) := by decide +kernel
theorem dX5_isCell_17 : decode cX5_isCell 17 = .ok (.getfield 13, 3) := by decide +kernel
theorem dX5_isCell_20 : decode cX5_isCell 20 = .ok (.iconst 1, 1) := by decide +kernel
theorem dX5_isCell_21 : decode cX5_isCell 21 = .ok (.isub, 1) := by decide +kernel
theorem dX5_isCell_22 : decode cX5_isCell 22 = .ok (.invokestatic 44, 3) := by decide +kernel
theorem dX5_isCell_25 : decode cX5_isCell 25 = .ok (.ifCond .eq 7, 3) := by decide +kernel
theorem dX5_isCell_28 : decode cX5_isCell 28 = .ok (.iconst 1, 1) := by decide +kernel
theorem dX5_isCell_29 : decode cX5_isCell 29 = .ok (.goto 4, 3) := by decide +kernel
theorem dX5_isCell_32 : decode cX5_isCell 32 = .ok (.iconst 0, 1) := by decide +kernel
theorem dX5_isCell_33 : decode cX5_isCell 33 = .ok (.ireturn, 1) := by decide +kernel
theorem dX5_at_0 : decode cX5_at 0 = .ok (.bipush 12, 2) := by decide +kernel
theorem dX5_at_2 : decode cX5_at 2 = .ok (.iload_n 1, 1) := by decide +kernel
theorem dX5_at_3 : decode cX5_at 3 = .ok (.iconst 1, 1) := by decide +kernel
theorem dX5_at_4 : decode cX5_at 4 = .ok (.iadd, 1) := by decide +kernel
theorem dX5_at_5 : decode cX5_at 5 = .ok (.imul, 1) := by decide +kernel
theorem dX5_at_6 : decode cX5_at 6 = .ok (.iload_n 0, 1) := by decide +kernel
theorem dX5_at_7 : decode cX5_at 7 = .ok (.iadd, 1) := by decide +kernel
theorem dX5_at_8 : decode cX5_at 8 = .ok (.iconst 1, 1) := by decide +kernel
theorem dX5_at_9 : decode cX5_at 9 = .ok (.iadd, 1) := by decide +kernel
theorem dX5_at_10 : decode cX5_at 10 = .ok (.ireturn, 1) := by decide +kernel
theorem dX5_cell_0 : decode cX5_cell 0 = .ok (.iload_n 1, 1) := by decide +kernel
theorem dX5_cell_1 : decode cX5_cell 1 = .ok (.aload_n 0, 1) := by decide +kernel
theorem dX5_cell_2 : decode cX5_cell 2 = .ok (.getfield 7, 3) := by decide +kernel
theorem dX5_cell_5 : decode cX5_cell 5 = .ok (.irem, 1) := by decide +kernel
theorem dX5_cell_6 : decode cX5_cell 6 = .ok (.iload_n 1, 1) := by decide +kernel
theorem dX5_cell_7 : decode cX5_cell 7 = .ok (.aload_n 0, 1) := by decide +kernel
theorem dX5_cell_8 : decode cX5_cell 8 = .ok (.getfield 7, 3) := by decide +kernel
theorem dX5_cell_11 : decode cX5_cell 11 = .ok (.idiv, 1) := by decide +kernel
theorem dX5_cell_12 : decode cX5_cell 12 = .ok (.invokestatic 48, 3) := by decide +kernel
theorem dX5_cell_15 : decode cX5_cell 15 = .ok (.ireturn, 1) := by decide +kernel
theorem dX5_around_0 : decode cX5_around 0 = .ok (.iconst 0, 1) := by decide +kernel
theorem dX5_around_1 : decode cX5_around 1 = .ok (.istore_n 3, 1) := by decide +kernel
theorem dX5_around_2 : decode cX5_around 2 = .ok (.getstatic 52, 3) := by decide +kernel
theorem dX5_around_5 : decode cX5_around 5 = .ok (.astore 4, 2) := by decide +kernel
theorem dX5_around_7 : decode cX5_around 7 = .ok (.aload 4, 2) := by decide +kernel
theorem dX5_around_9 : decode cX5_around 9 = .ok (.arraylength, 1) := by decide +kernel
theorem dX5_around_10 : decode cX5_around 10 = .ok (.istore 5, 2) := by decide +kernel
theorem dX5_around_12 : decode cX5_around 12 = .ok (.iconst 0, 1) := by decide +kernel
theorem dX5_around_13 : decode cX5_around 13 = .ok (.istore 6, 2) := by decide +kernel
theorem dX5_around_15 : decode cX5_around 15 = .ok (.iload 6, 2) := by decide +kernel
theorem dX5_around_17 : decode cX5_around 17 = .ok (.iload 5, 2) := by decide +kernel
theorem dX5_around_19 : decode cX5_around 19 = .ok (.if_icmp .ge 37, 3) := by decide +kernel
theorem dX5_around_22 : decode cX5_around 22 = .ok (.aload 4, 2) := by decide +kernel
theorem dX5_around_24 : decode cX5_around 24 = .ok (.iload 6, 2) := by decide +kernel
theorem dX5_around_26 : decode cX5_around 26 = .ok (.iaload, 1) := by decide +kernel
theorem dX5_around_27 : decode cX5_around 27 = .ok (.istore 7, 2) := by decide +kernel
theorem dX5_around_29 : decode cX5_around 29 = .ok (.iload_n 3, 1) := by decide +kernel
theorem dX5_around_30 : decode cX5_around 30 = .ok (.aload_n 0, 1) := by decide +kernel
theorem dX5_around_31 : decode cX5_around 31 = .ok (.getfield 16, 3) := by decide +kernel
theorem dX5_around_34 : decode cX5_around 34 = .ok (.iload_n 1, 1) := by decide +kernel
theorem dX5_around_35 : decode cX5_around 35 = .ok (.iload 7, 2) := by decide +kernel
theorem dX5_around_37 : decode cX5_around 37 = .ok (.iadd, 1) := by decide +kernel
theorem dX5_around_38 : decode cX5_around 38 = .ok (.iaload, 1) := by decide +kernel
theorem dX5_around_39 : decode cX5_around 39 = .ok (.iload_n 2, 1) := by decide +kernel
theorem dX5_around_40 : decode cX5_around 40 = .ok (.if_icmp .ne 7, 3) := by decide +kernel
theorem dX5_around_43 : decode cX5_around 43 = .ok (.iconst 1, 1) := by decide +kernel
theorem dX5_around_44 : decode cX5_around 44 = .ok (.goto 4, 3) := by decide +kernel
theorem dX5_around_47 : decode cX5_around 47 = .ok (.iconst 0, 1) := by decide +kernel
theorem dX5_around_48 : decode cX5_around 48 = .ok (.iadd, 1) := by decide +kernel
theorem dX5_around_49 : decode cX5_around 49 = .ok (.istore_n 3, 1) := by decide +kernel
theorem dX5_around_50 : decode cX5_around 50 = .ok (.iinc 6 1, 3) := by decide +kernel
theorem dX5_around_53 : decode cX5_around 53 = .ok (.goto (-38), 3) := by decide +kernel
theorem dX5_around_56 : decode cX5_around 56 = .ok (.iload_n 3, 1) := by decide +kernel
theorem dX5_around_57 : decode cX5_around 57 = .ok (.ireturn, 1) := by decide +kernel
theorem dX5_next_0 : decode cX5_next 0 = .ok (.aload_n 0, 1) := by decide +kernel
theorem dX5_next_1 : decode cX5_next 1 = .ok (.getfield 16, 3) := by decide +kernel
theorem dX5_next_4 : decode cX5_next 4 = .ok (.iload_n 1, 1) := by decide +kernel
theorem dX5_next_5 : decode cX5_next 5 = .ok (.iaload, 1) := by decide +kernel
theorem dX5_next_6 : decode cX5_next 6 = .ok (.tableswitch 36 0 3 #[30, 36, 32, 34], 30) := by decide +kernel
theorem dX5_next_36 : decode cX5_next 36 = .ok (.iconst 0, 1) := by decide +kernel
theorem dX5_next_37 : decode cX5_next 37 = .ok (.ireturn, 1) := by decide +kernel
theorem dX5_next_38 : decode cX5_next 38 = .ok (.iconst 3, 1) := by decide +kernel
theorem dX5_next_39 : decode cX5_next 39 = .ok (.ireturn, 1) := by decide +kernel
theorem dX5_next_40 : decode cX5_next 40 = .ok (.iconst 1, 1) := by decide +kernel
theorem dX5_next_41 : decode cX5_next 41 = .ok (.ireturn, 1) := by decide +kernel
theorem dX5_next_42 : decode cX5_next 42 = .ok (.aload_n 0, 1) := by decide +kernel
theorem dX5_next_43 : decode cX5_next 43 = .ok (.iload_n 1, 1) := by decide +kernel
theorem dX5_next_44 : decode cX5_next 44 = .ok (.iconst 2, 1) := by decide +kernel
theorem dX5_next_45 : decode cX5_next 45 = .ok (.invokevirtual 55, 3) := by decide +kernel
theorem dX5_next_48 : decode cX5_next 48 = .ok (.istore_n 2, 1) := by decide +kernel
theorem dX5_next_49 : decode cX5_next 49 = .ok (.iload_n 2, 1) := by decide +kernel
theorem dX5_next_50 : decode cX5_next 50 = .ok (.iconst 1, 1) := by decide +kernel
theorem dX5_next_51 : decode cX5_next 51 = .ok (.if_icmp .eq 8, 3) := by decide +kernel
theorem dX5_next_54 : decode cX5_next 54 = .ok (.iload_n 2, 1) := by decide +kernel
theorem dX5_next_55 : decode cX5_next 55 = .ok (.iconst 2, 1) := by decide +kernel
theorem dX5_next_56 : decode cX5_next 56 = .ok (.if_icmp .ne 7, 3) := by decide +kernel
theorem dX5_next_59 : decode cX5_next 59 = .ok (.iconst 2, 1) := by decide +kernel
theorem dX5_next_60 : decode cX5_next 60 = .ok (.goto 4, 3) := by decide +kernel
theorem dX5_next_63 : decode cX5_next 63 = .ok (.iconst 1, 1) := by decide +kernel
theorem dX5_next_64 : decode cX5_next 64 = .ok (.ireturn, 1) := by decide +kernel
theorem dX5_cells_0 : decode cX5_cells 0 = .ok (.iconst 0, 1) := by decide +kernel
theorem dX5_cells_1 : decode cX5_cells 1 = .ok (.istore_n 2, 1) := by decide +kernel
theorem dX5_cells_2 : decode cX5_cells 2 = .ok (.iconst 0, 1) := by decide +kernel
theorem dX5_cells_3 : decode cX5_cells 3 = .ok (.istore_n 3, 1) := by decide +kernel
theorem dX5_cells_4 : decode cX5_cells 4 = .ok (.iload_n 3, 1) := by decide +kernel
theorem dX5_cells_5 : decode cX5_cells 5 = .ok (.aload_n 0, 1) := by decide +kernel
theorem dX5_cells_6 : decode cX5_cells 6 = .ok (.getfield 7, 3) := by decide +kernel
theorem dX5_cells_9 : decode cX5_cells 9 = .ok (.aload_n 0, 1) := by decide +kernel
theorem dX5_cells_10 : decode cX5_cells 10 = .ok (.getfield 13, 3) := by decide +kernel
theorem dX5_cells_13 : decode cX5_cells 13 = .ok (.imul, 1) := by decide +kernel
theorem dX5_cells_14 : decode cX5_cells 14 = .ok (.if_icmp .ge 31, 3) := by decide +kernel
theorem dX5_cells_17 : decode cX5_cells 17 = .ok (.iload_n 2, 1) := by decide +kernel
theorem dX5_cells_18 : decode cX5_cells 18 = .ok (.aload_n 0, 1) := by decide +kernel
theorem dX5_cells_19 : decode cX5_cells 19 = .ok (.getfield 16, 3) := by decide +kernel
theorem dX5_cells_22 : decode cX5_cells 22 = .ok (.aload_n 0, 1) := by decide +kernel
theorem dX5_cells_23 : decode cX5_cells 23 = .ok (.iload_n 3, 1) := by decide +kernel
theorem dX5_cells_24 : decode cX5_cells 24 = .ok (.invokevirtual 58, 3) := by decide +kernel
theorem dX5_cells_27 : decode cX5_cells 27 = .ok (.iaload, 1) := by decide +kernel
theorem dX5_cells_28 : decode cX5_cells 28 = .ok (.iload_n 1, 1) := by decide +kernel
theorem dX5_cells_29 : decode cX5_cells 29 = .ok (.if_icmp .ne 7, 3) := by decide +kernel
theorem dX5_cells_32 : decode cX5_cells 32 = .ok (.iconst 1, 1) := by decide +kernel
theorem dX5_cells_33 : decode cX5_cells 33 = .ok (.goto 4, 3) := by decide +kernel
theorem dX5_cells_36 : decode cX5_cells 36 = .ok (.iconst 0, 1) := by decide +kernel
theorem dX5_cells_37 : decode cX5_cells 37 = .ok (.iadd, 1) := by decide +kernel
theorem dX5_cells_38 : decode cX5_cells 38 = .ok (.istore_n 2, 1) := by decide +kernel
theorem dX5_cells_39 : decode cX5_cells 39 = .ok (.iinc 3 1, 3) := by decide +kernel
theorem dX5_cells_42 : decode cX5_cells 42 = .ok (.goto (-38), 3) := by decide +kernel
theorem dX5_cells_45 : decode cX5_cells 45 = .ok (.iload_n 2, 1) := by decide +kernel
theorem dX5_cells_46 : decode cX5_cells 46 = .ok (.ireturn, 1) := by decide +kernel
theorem dX5_step_0 : decode cX5_step 0 = .ok (.iconst 0, 1) := by decide +kernel
theorem dX5_step_1 : decode cX5_step 1 = .ok (.istore_n 1, 1) := by decide +kernel
theorem dX5_step_2 : decode cX5_step 2 = .ok (.iload_n 1, 1) := by decide +kernel
theorem dX5_step_3 : decode cX5_step 3 = .ok (.aload_n 0, 1) := by decide +kernel
theorem dX5_step_4 : decode cX5_step 4 = .ok (.getfield 7, 3) := by decide +kernel
theorem dX5_step_7 : decode cX5_step 7 = .ok (.aload_n 0, 1) := by decide +kernel
theorem dX5_step_8 : decode cX5_step 8 = .ok (.getfield 13, 3) := by decide +kernel
theorem dX5_step_11 : decode cX5_step 11 = .ok (.imul, 1) := by decide +kernel
theorem dX5_step_12 : decode cX5_step 12 = .ok (.if_icmp .ge 28, 3) := by decide +kernel
theorem dX5_step_15 : decode cX5_step 15 = .ok (.aload_n 0, 1) := by decide +kernel
theorem dX5_step_16 : decode cX5_step 16 = .ok (.getfield 23, 3) := by decide +kernel
theorem dX5_step_19 : decode cX5_step 19 = .ok (.aload_n 0, 1) := by decide +kernel
theorem dX5_step_20 : decode cX5_step 20 = .ok (.iload_n 1, 1) := by decide +kernel
theorem dX5_step_21 : decode cX5_step 21 = .ok (.invokevirtual 58, 3) := by decide +kernel
theorem dX5_step_24 : decode cX5_step 24 = .ok (.aload_n 0, 1) := by decide +kernel
theorem dX5_step_25 : decode cX5_step 25 = .ok (.aload_n 0, 1) := by decide +kernel
theorem dX5_step_26 : decode cX5_step 26 = .ok (.iload_n 1, 1) := by decide +kernel
theorem dX5_step_27 : decode cX5_step 27 = .ok (.invokevirtual 58, 3) := by decide +kernel
theorem dX5_step_30 : decode cX5_step 30 = .ok (.invokevirtual 62, 3) := by decide +kernel
theorem dX5_step_33 : decode cX5_step 33 = .ok (.iastore, 1) := by decide +kernel
theorem dX5_step_34 : decode cX5_step 34 = .ok (.iinc 1 1, 3) := by decide +kernel
theorem dX5_step_37 : decode cX5_step 37 = .ok (.goto (-35), 3) := by decide +kernel
theorem dX5_step_40 : decode cX5_step 40 = .ok (.iconst 0, 1) := by decide +kernel
theorem dX5_step_41 : decode cX5_step 41 = .ok (.istore_n 1, 1) := by decide +kernel
theorem dX5_step_42 : decode cX5_step 42 = .ok (.iload_n 1, 1) := by decide +kernel
theorem dX5_step_43 : decode cX5_step 43 = .ok (.aload_n 0, 1) := by decide +kernel
theorem dX5_step_44 : decode cX5_step 44 = .ok (.getfield 7, 3) := by decide +kernel
theorem dX5_step_47 : decode cX5_step 47 = .ok (.aload_n 0, 1) := by decide +kernel
theorem dX5_step_48 : decode cX5_step 48 = .ok (.getfield 13, 3) := by decide +kernel
theorem dX5_step_51 : decode cX5_step 51 = .ok (.imul, 1) := by decide +kernel
theorem dX5_step_52 : decode cX5_step 52 = .ok (.if_icmp .ge 29, 3) := by decide +kernel
theorem dX5_step_55 : decode cX5_step 55 = .ok (.aload_n 0, 1) := by decide +kernel
theorem dX5_step_56 : decode cX5_step 56 = .ok (.getfield 16, 3) := by decide +kernel
theorem dX5_step_59 : decode cX5_step 59 = .ok (.aload_n 0, 1) := by decide +kernel
theorem dX5_step_60 : decode cX5_step 60 = .ok (.iload_n 1, 1) := by decide +kernel
theorem dX5_step_61 : decode cX5_step 61 = .ok (.invokevirtual 58, 3) := by decide +kernel
theorem dX5_step_64 : decode cX5_step 64 = .ok (.aload_n 0, 1) := by decide +kernel
theorem dX5_step_65 : decode cX5_step 65 = .ok (.getfield 23, 3) := by decide +kernel
theorem dX5_step_68 : decode cX5_step 68 = .ok (.aload_n 0, 1) := by decide +kernel
theorem dX5_step_69 : decode cX5_step 69 = .ok (.iload_n 1, 1) := by decide +kernel
theorem dX5_step_70 : decode cX5_step 70 = .ok (.invokevirtual 58, 3) := by decide +kernel
theorem dX5_step_73 : decode cX5_step 73 = .ok (.iaload, 1) := by decide +kernel
theorem dX5_step_74 : decode cX5_step 74 = .ok (.iastore, 1) := by decide +kernel
theorem dX5_step_75 : decode cX5_step 75 = .ok (.iinc 1 1, 3) := by decide +kernel
theorem dX5_step_78 : decode cX5_step 78 = .ok (.goto (-36), 3) := by decide +kernel
theorem dX5_step_81 : decode cX5_step 81 = .ok (.return_, 1) := by decide +kernel
theorem dX5_light_0 : decode cX5_light 0 = .ok (.iconst 0, 1) := by decide +kernel
theorem dX5_light_1 : decode cX5_light 1 = .ok (.istore_n 2, 1) := by decide +kernel
theorem dX5_light_2 : decode cX5_light 2 = .ok (.iload_n 2, 1) := by decide +kernel
theorem dX5_light_3 : decode cX5_light 3 = .ok (.aload_n 0, 1) := by decide +kernel
theorem dX5_light_4 : decode cX5_light 4 = .ok (.getfield 65, 3) := by decide +kernel
theorem dX5_light_7 : decode cX5_light 7 = .ok (.if_icmp .ge 54, 3) := by decide +kernel
theorem dX5_light_10 : decode cX5_light 10 = .ok (.aload_n 0, 1) := by decide +kernel
theorem dX5_light_11 : decode cX5_light 11 = .ok (.getfield 16, 3) := by decide +kernel
theorem dX5_light_14 : decode cX5_light 14 = .ok (.aload_n 0, 1) := by decide +kernel
theorem dX5_light_15 : decode cX5_light 15 = .ok (.getfield 26, 3) := by decide +kernel
theorem dX5_light_18 : decode cX5_light 18 = .ok (.iconst 4, 1) := by decide +kernel
theorem dX5_light_19 : decode cX5_light 19 = .ok (.iload_n 2, 1) := by decide +kernel
theorem dX5_light_20 : decode cX5_light 20 = .ok (.imul, 1) := by decide +kernel
theorem dX5_light_21 : decode cX5_light 21 = .ok (.iaload, 1) := by decide +kernel
theorem dX5_light_22 : decode cX5_light 22 = .ok (.iaload, 1) := by decide +kernel
theorem dX5_light_23 : decode cX5_light 23 = .ok (.iconst 2, 1) := by decide +kernel
theorem dX5_light_24 : decode cX5_light 24 = .ok (.if_icmp .eq 6, 3) := by decide +kernel
theorem dX5_light_27 : decode cX5_light 27 = .ok (.goto 28, 3) := by decide +kernel
theorem dX5_light_30 : decode cX5_light 30 = .ok (.aload_n 0, 1) := by decide +kernel
theorem dX5_light_31 : decode cX5_light 31 = .ok (.getfield 26, 3) := by decide +kernel
theorem dX5_light_34 : decode cX5_light 34 = .ok (.iconst 4, 1) := by decide +kernel
theorem dX5_light_35 : decode cX5_light 35 = .ok (.iload_n 2, 1) := by decide +kernel
theorem dX5_light_36 : decode cX5_light 36 = .ok (.imul, 1) := by decide +kernel
theorem dX5_light_37 : decode cX5_light 37 = .ok (.iconst 1, 1) := by decide +kernel
theorem dX5_light_38 : decode cX5_light 38 = .ok (.iadd, 1) := by decide +kernel
theorem dX5_light_39 : decode cX5_light 39 = .ok (.dup2, 1) := by decide +kernel
theorem dX5_light_40 : decode cX5_light 40 = .ok (.iaload, 1) := by decide +kernel
theorem dX5_light_41 : decode cX5_light 41 = .ok (.iconst 1, 1) := by decide +kernel
theorem dX5_light_42 : decode cX5_light 42 = .ok (.iadd, 1) := by decide +kernel
theorem dX5_light_43 : decode cX5_light 43 = .ok (.iastore, 1) := by decide +kernel
theorem dX5_light_44 : decode cX5_light 44 = .ok (.aload_n 0, 1) := by decide +kernel
theorem dX5_light_45 : decode cX5_light 45 = .ok (.getfield 26, 3) := by decide +kernel
theorem dX5_light_48 : decode cX5_light 48 = .ok (.iconst 4, 1) := by decide +kernel
theorem dX5_light_49 : decode cX5_light 49 = .ok (.iload_n 2, 1) := by decide +kernel
theorem dX5_light_50 : decode cX5_light 50 = .ok (.imul, 1) := by decide +kernel
theorem dX5_light_51 : decode cX5_light 51 = .ok (.iconst 2, 1) := by decide +kernel
theorem dX5_light_52 : decode cX5_light 52 = .ok (.iadd, 1) := by decide +kernel
theorem dX5_light_53 : decode cX5_light 53 = .ok (.iload_n 1, 1) := by decide +kernel
theorem dX5_light_54 : decode cX5_light 54 = .ok (.iastore, 1) := by decide +kernel
theorem dX5_light_55 : decode cX5_light 55 = .ok (.iinc 2 1, 3) := by decide +kernel
theorem dX5_light_58 : decode cX5_light 58 = .ok (.goto (-56), 3) := by decide +kernel
theorem dX5_light_61 : decode cX5_light 61 = .ok (.return_, 1) := by decide +kernel
theorem dX5_keep_0 : decode cX5_keep 0 = .ok (.aload_n 0, 1) := by decide +kernel
theorem dX5_keep_1 : decode cX5_keep 1 = .ok (.getfield 16, 3) := by decide +kernel
theorem dX5_keep_4 : decode cX5_keep 4 = .ok (.iconst 0, 1) := by decide +kernel
theorem dX5_keep_5 : decode cX5_keep 5 = .ok (.aload_n 0, 1) := by decide +kernel
theorem dX5_keep_6 : decode cX5_keep 6 = .ok (.getfield 20, 3) := by decide +kernel
theorem dX5_keep_9 : decode cX5_keep 9 = .ok (.iconst 0, 1) := by decide +kernel
theorem dX5_keep_10 : decode cX5_keep 10 = .ok (.sipush 144, 3) := by decide +kernel
theorem dX5_keep_13 : decode cX5_keep 13 = .ok (.invokestatic 68, 3) := by decide +kernel
theorem dX5_keep_16 : decode cX5_keep 16 = .ok (.aload_n 0, 1) := by decide +kernel
theorem dX5_keep_17 : decode cX5_keep 17 = .ok (.getfield 26, 3) := by decide +kernel
theorem dX5_keep_20 : decode cX5_keep 20 = .ok (.iconst 0, 1) := by decide +kernel
theorem dX5_keep_21 : decode cX5_keep 21 = .ok (.aload_n 0, 1) := by decide +kernel
theorem dX5_keep_22 : decode cX5_keep 22 = .ok (.getfield 29, 3) := by decide +kernel
theorem dX5_keep_25 : decode cX5_keep 25 = .ok (.iconst 0, 1) := by decide +kernel
theorem dX5_keep_26 : decode cX5_keep 26 = .ok (.aload_n 0, 1) := by decide +kernel
theorem dX5_keep_27 : decode cX5_keep 27 = .ok (.getfield 26, 3) := by decide +kernel
theorem dX5_keep_30 : decode cX5_keep 30 = .ok (.arraylength, 1) := by decide +kernel
theorem dX5_keep_31 : decode cX5_keep 31 = .ok (.invokestatic 68, 3) := by decide +kernel
theorem dX5_keep_34 : decode cX5_keep 34 = .ok (.return_, 1) := by decide +kernel
theorem dX5_bringBack_0 : decode cX5_bringBack 0 = .ok (.aload_n 0, 1) := by decide +kernel
theorem dX5_bringBack_1 : decode cX5_bringBack 1 = .ok (.getfield 20, 3) := by decide +kernel
theorem dX5_bringBack_4 : decode cX5_bringBack 4 = .ok (.iconst 0, 1) := by decide +kernel
theorem dX5_bringBack_5 : decode cX5_bringBack 5 = .ok (.aload_n 0, 1) := by decide +kernel
theorem dX5_bringBack_6 : decode cX5_bringBack 6 = .ok (.getfield 16, 3) := by decide +kernel
theorem dX5_bringBack_9 : decode cX5_bringBack 9 = .ok (.iconst 0, 1) := by decide +kernel
theorem dX5_bringBack_10 : decode cX5_bringBack 10 = .ok (.sipush 144, 3) := by decide +kernel
theorem dX5_bringBack_13 : decode cX5_bringBack 13 = .ok (.invokestatic 68, 3) := by decide +kernel
theorem dX5_bringBack_16 : decode cX5_bringBack 16 = .ok (.aload_n 0, 1) := by decide +kernel
theorem dX5_bringBack_17 : decode cX5_bringBack 17 = .ok (.getfield 29, 3) := by decide +kernel
theorem dX5_bringBack_20 : decode cX5_bringBack 20 = .ok (.iconst 0, 1) := by decide +kernel
theorem dX5_bringBack_21 : decode cX5_bringBack 21 = .ok (.aload_n 0, 1) := by decide +kernel
theorem dX5_bringBack_22 : decode cX5_bringBack 22 = .ok (.getfield 26, 3) := by decide +kernel
theorem dX5_bringBack_25 : decode cX5_bringBack 25 = .ok (.iconst 0, 1) := by decide +kernel
theorem dX5_bringBack_26 : decode cX5_bringBack 26 = .ok (.aload_n 0, 1) := by decide +kernel
theorem dX5_bringBack_27 : decode cX5_bringBack 27 = .ok (.getfield 26, 3) := by decide +kernel
theorem dX5_bringBack_30 : decode cX5_bringBack 30 = .ok (.arraylength, 1) := by decide +kernel
theorem dX5_bringBack_31 : decode cX5_bringBack 31 = .ok (.invokestatic 68, 3) := by decide +kernel
theorem dX5_bringBack_34 : decode cX5_bringBack 34 = .ok (.return_, 1) := by decide +kernel
theorem dX5_setBoard_0 : decode cX5_setBoard 0 = .ok (.aload_n 0, 1) := by decide +kernel
theorem dX5_setBoard_1 : decode cX5_setBoard 1 = .ok (.iconst 0, 1) := by decide +kernel
theorem dX5_setBoard_2 : decode cX5_setBoard 2 = .ok (.putfield 41, 3) := by decide +kernel
theorem dX5_setBoard_5 : decode cX5_setBoard 5 = .ok (.iload_n 1, 1) := by decide +kernel
theorem dX5_setBoard_6 : decode cX5_setBoard 6 = .ok (.iconst 3, 1) := by decide +kernel
theorem dX5_setBoard_7 : decode cX5_setBoard 7 = .ok (.bipush 10, 2) := by decide +kernel
theorem dX5_setBoard_9 : decode cX5_setBoard 9 = .ok (.invokestatic 44, 3) := by decide +kernel
theorem dX5_setBoard_12 : decode cX5_setBoard 12 = .ok (.ifCond .eq 13, 3) := by decide +kernel
theorem dX5_setBoard_15 : decode cX5_setBoard 15 = .ok (.iload_n 2, 1) := by decide +kernel
theorem dX5_setBoard_16 : decode cX5_setBoard 16 = .ok (.iconst 3, 1) := by decide +kernel
theorem dX5_setBoard_17 : decode cX5_setBoard 17 = .ok (.bipush 10, 2) := by decide +kernel
theorem dX5_setBoard_19 : decode cX5_setBoard 19 = .ok (.invokestatic 44, 3) := by decide +kernel
theorem dX5_setBoard_22 : decode cX5_setBoard 22 = .ok (.ifCond .ne 9, 3) := by decide +kernel
theorem dX5_setBoard_25 : decode cX5_setBoard 25 = .ok (.aload_n 0, 1) := by decide +kernel
theorem dX5_setBoard_26 : decode cX5_setBoard 26 = .ok (.iconst 1, 1) := by decide +kernel
theorem dX5_setBoard_27 : decode cX5_setBoard 27 = .ok (.invokevirtual 74, 3) := by decide +kernel
theorem dX5_setBoard_30 : decode cX5_setBoard 30 = .ok (.ireturn, 1) := by decide +kernel
theorem dX5_setBoard_31 : decode cX5_setBoard 31 = .ok (.aload_n 0, 1) := by decide +kernel
theorem dX5_setBoard_32 : decode cX5_setBoard 32 = .ok (.iload_n 1, 1) := by decide +kernel
theorem dX5_setBoard_33 : decode cX5_setBoard 33 = .ok (.putfield 7, 3) := by decide +kernel
theorem dX5_setBoard_36 : decode cX5_setBoard 36 = .ok (.aload_n 0, 1) := by decide +kernel
theorem dX5_setBoard_37 : decode cX5_setBoard 37 = .ok (.iload_n 2, 1) := by decide +kernel
theorem dX5_setBoard_38 : decode cX5_setBoard 38 = .ok (.putfield 13, 3) := by decide +kernel
theorem dX5_setBoard_41 : decode cX5_setBoard 41 = .ok (.aload_n 0, 1) := by decide +kernel
theorem dX5_setBoard_42 : decode cX5_setBoard 42 = .ok (.iconst 0, 1) := by decide +kernel
theorem dX5_setBoard_43 : decode cX5_setBoard 43 = .ok (.putfield 65, 3) := by decide +kernel
theorem dX5_setBoard_46 : decode cX5_setBoard 46 = .ok (.iconst 0, 1) := by decide +kernel
theorem dX5_setBoard_47 : decode cX5_setBoard 47 = .ok (.istore_n 3, 1) := by decide +kernel
theorem dX5_setBoard_48 : decode cX5_setBoard 48 = .ok (.iload_n 3, 1) := by decide +kernel
theorem dX5_setBoard_49 : decode cX5_setBoard 49 = .ok (.sipush 144, 3) := by decide +kernel
theorem dX5_setBoard_52 : decode cX5_setBoard 52 = .ok (.if_icmp .ge 16, 3) := by decide +kernel
theorem dX5_setBoard_55 : decode cX5_setBoard 55 = .ok (.aload_n 0, 1) := by decide +kernel
theorem dX5_setBoard_56 : decode cX5_setBoard 56 = .ok (.getfield 16, 3) := by decide +kernel
theorem dX5_setBoard_59 : decode cX5_setBoard 59 = .ok (.iload_n 3, 1) := by decide +kernel
theorem dX5_setBoard_60 : decode cX5_setBoard 60 = .ok (.iconst 0, 1) := by decide +kernel
theorem dX5_setBoard_61 : decode cX5_setBoard 61 = .ok (.iastore, 1) := by decide +kernel
theorem dX5_setBoard_62 : decode cX5_setBoard 62 = .ok (.iinc 3 1, 3) := by decide +kernel
theorem dX5_setBoard_65 : decode cX5_setBoard 65 = .ok (.goto (-17), 3) := by decide +kernel
theorem dX5_setBoard_68 : decode cX5_setBoard 68 = .ok (.iload_n 1, 1) := by decide +kernel
theorem dX5_setBoard_69 : decode cX5_setBoard 69 = .ok (.iload_n 2, 1) := by decide +kernel
theorem dX5_setBoard_70 : decode cX5_setBoard 70 = .ok (.imul, 1) := by decide +kernel
theorem dX5_setBoard_71 : decode cX5_setBoard 71 = .ok (.ireturn, 1) := by decide +kernel
theorem dX5_set_0 : decode cX5_set 0 = .ok (.aload_n 0, 1) := by decide +kernel
theorem dX5_set_1 : decode cX5_set 1 = .ok (.iconst 0, 1) := by decide +kernel
theorem dX5_set_2 : decode cX5_set 2 = .ok (.putfield 41, 3) := by decide +kernel
theorem dX5_set_5 : decode cX5_set 5 = .ok (.aload_n 0, 1) := by decide +kernel
theorem dX5_set_6 : decode cX5_set 6 = .ok (.iload_n 1, 1) := by decide +kernel
theorem dX5_set_7 : decode cX5_set 7 = .ok (.iload_n 2, 1) := by decide +kernel
theorem dX5_set_8 : decode cX5_set 8 = .ok (.invokevirtual 77, 3) := by decide +kernel
theorem dX5_set_11 : decode cX5_set 11 = .ok (.ifCond .ne 9, 3) := by decide +kernel
theorem dX5_set_14 : decode cX5_set 14 = .ok (.aload_n 0, 1) := by decide +kernel
theorem dX5_set_15 : decode cX5_set 15 = .ok (.iconst 1, 1) := by decide +kernel
theorem dX5_set_16 : decode cX5_set 16 = .ok (.invokevirtual 74, 3) := by decide +kernel
theorem dX5_set_19 : decode cX5_set 19 = .ok (.ireturn, 1) := by decide +kernel
theorem dX5_set_20 : decode cX5_set 20 = .ok (.iload_n 3, 1) := by decide +kernel
theorem dX5_set_21 : decode cX5_set 21 = .ok (.iconst 0, 1) := by decide +kernel
theorem dX5_set_22 : decode cX5_set 22 = .ok (.iconst 3, 1) := by decide +kernel
theorem dX5_set_23 : decode cX5_set 23 = .ok (.invokestatic 44, 3) := by decide +kernel
theorem dX5_set_26 : decode cX5_set 26 = .ok (.ifCond .ne 9, 3) := by decide +kernel
theorem dX5_set_29 : decode cX5_set 29 = .ok (.aload_n 0, 1) := by decide +kernel
theorem dX5_set_30 : decode cX5_set 30 = .ok (.iconst 2, 1) := by decide +kernel
theorem dX5_set_31 : decode cX5_set 31 = .ok (.invokevirtual 74, 3) := by decide +kernel
theorem dX5_set_34 : decode cX5_set 34 = .ok (.ireturn, 1) := by decide +kernel
theorem dX5_set_35 : decode cX5_set 35 = .ok (.aload_n 0, 1) := by decide +kernel
theorem dX5_set_36 : decode cX5_set 36 = .ok (.getfield 16, 3) := by decide +kernel
theorem dX5_set_39 : decode cX5_set 39 = .ok (.iload_n 1, 1) := by decide +kernel
theorem dX5_set_40 : decode cX5_set 40 = .ok (.iload_n 2, 1) := by decide +kernel
theorem dX5_set_41 : decode cX5_set 41 = .ok (.invokestatic 48, 3) := by decide +kernel
theorem dX5_set_44 : decode cX5_set 44 = .ok (.iaload, 1) := by decide +kernel
theorem dX5_set_45 : decode cX5_set 45 = .ok (.istore 4, 2) := by decide +kernel
theorem dX5_set_47 : decode cX5_set 47 = .ok (.aload_n 0, 1) := by decide +kernel
theorem dX5_set_48 : decode cX5_set 48 = .ok (.getfield 16, 3) := by decide +kernel
theorem dX5_set_51 : decode cX5_set 51 = .ok (.iload_n 1, 1) := by decide +kernel
theorem dX5_set_52 : decode cX5_set 52 = .ok (.iload_n 2, 1) := by decide +kernel
theorem dX5_set_53 : decode cX5_set 53 = .ok (.invokestatic 48, 3) := by decide +kernel
theorem dX5_set_56 : decode cX5_set 56 = .ok (.iload_n 3, 1) := by decide +kernel
theorem dX5_set_57 : decode cX5_set 57 = .ok (.iastore, 1) := by decide +kernel
theorem dX5_set_58 : decode cX5_set 58 = .ok (.iload 4, 2) := by decide +kernel
theorem dX5_set_60 : decode cX5_set 60 = .ok (.ireturn, 1) := by decide +kernel
theorem dX5_lay_0 : decode cX5_lay 0 = .ok (.aload_n 0, 1) := by decide +kernel
theorem dX5_lay_1 : decode cX5_lay 1 = .ok (.getfield 16, 3) := by decide +kernel
theorem dX5_lay_4 : decode cX5_lay 4 = .ok (.iload_n 1, 1) := by decide +kernel
theorem dX5_lay_5 : decode cX5_lay 5 = .ok (.iaload, 1) := by decide +kernel
theorem dX5_lay_6 : decode cX5_lay 6 = .ok (.ifCond .eq 5, 3) := by decide +kernel
theorem dX5_lay_9 : decode cX5_lay 9 = .ok (.iconst 0, 1) := by decide +kernel
theorem dX5_lay_10 : decode cX5_lay 10 = .ok (.ireturn, 1) := by decide +kernel
theorem dX5_lay_11 : decode cX5_lay 11 = .ok (.aload_n 0, 1) := by decide +kernel
theorem dX5_lay_12 : decode cX5_lay 12 = .ok (.getfield 16, 3) := by decide +kernel
theorem dX5_lay_15 : decode cX5_lay 15 = .ok (.iload_n 1, 1) := by decide +kernel
theorem dX5_lay_16 : decode cX5_lay 16 = .ok (.iconst 1, 1) := by decide +kernel
theorem dX5_lay_17 : decode cX5_lay 17 = .ok (.iastore, 1) := by decide +kernel
theorem dX5_lay_18 : decode cX5_lay 18 = .ok (.iconst 1, 1) := by decide +kernel
theorem dX5_lay_19 : decode cX5_lay 19 = .ok (.ireturn, 1) := by decide +kernel
theorem dX5_line_0 : decode cX5_line 0 = .ok (.aload_n 0, 1) := by decide +kernel
theorem dX5_line_1 : decode cX5_line 1 = .ok (.iconst 0, 1) := by decide +kernel
theorem dX5_line_2 : decode cX5_line 2 = .ok (.putfield 41, 3) := by decide +kernel
theorem dX5_line_5 : decode cX5_line 5 = .ok (.aload_n 0, 1) := by decide +kernel
theorem dX5_line_6 : decode cX5_line 6 = .ok (.iload_n 1, 1) := by decide +kernel
theorem dX5_line_7 : decode cX5_line 7 = .ok (.iload_n 2, 1) := by decide +kernel
theorem dX5_line_8 : decode cX5_line 8 = .ok (.invokevirtual 77, 3) := by decide +kernel
theorem dX5_line_11 : decode cX5_line 11 = .ok (.ifCond .eq 13, 3) := by decide +kernel
theorem dX5_line_14 : decode cX5_line 14 = .ok (.aload_n 0, 1) := by decide +kernel
theorem dX5_line_15 : decode cX5_line 15 = .ok (.iload_n 3, 1) := by decide +kernel
theorem dX5_line_16 : decode cX5_line 16 = .ok (.iload 4, 2) := by decide +kernel
theorem dX5_line_18 : decode cX5_line 18 = .ok (.invokevirtual 77, 3) := by decide +kernel
theorem dX5_line_21 : decode cX5_line 21 = .ok (.ifCond .ne 9, 3) := by decide +kernel
theorem dX5_line_24 : decode cX5_line 24 = .ok (.aload_n 0, 1) := by decide +kernel
theorem dX5_line_25 : decode cX5_line 25 = .ok (.iconst 1, 1) := by decide +kernel
theorem dX5_line_26 : decode cX5_line 26 = .ok (.invokevirtual 74, 3) := by decide +kernel
theorem dX5_line_29 : decode cX5_line 29 = .ok (.ireturn, 1) := by decide +kernel
theorem dX5_line_30 : decode cX5_line 30 = .ok (.iload_n 3, 1) := by decide +kernel
theorem dX5_line_31 : decode cX5_line 31 = .ok (.iload_n 1, 1) := by decide +kernel
theorem dX5_line_32 : decode cX5_line 32 = .ok (.isub, 1) := by decide +kernel
theorem dX5_line_33 : decode cX5_line 33 = .ok (.istore 5, 2) := by decide +kernel
theorem dX5_line_35 : decode cX5_line 35 = .ok (.iload 4, 2) := by decide +kernel
theorem dX5_line_37 : decode cX5_line 37 = .ok (.iload_n 2, 1) := by decide +kernel
theorem dX5_line_38 : decode cX5_line 38 = .ok (.isub, 1) := by decide +kernel
theorem dX5_line_39 : decode cX5_line 39 = .ok (.istore 6, 2) := by decide +kernel
theorem dX5_line_41 : decode cX5_line 41 = .ok (.iload 5, 2) := by decide +kernel
theorem dX5_line_43 : decode cX5_line 43 = .ok (.ifCond .eq 27, 3) := by decide +kernel
theorem dX5_line_46 : decode cX5_line 46 = .ok (.iload 6, 2) := by decide +kernel
theorem dX5_line_48 : decode cX5_line 48 = .ok (.ifCond .eq 22, 3) := by decide +kernel
theorem dX5_line_51 : decode cX5_line 51 = .ok (.iload 5, 2) := by decide +kernel
theorem dX5_line_53 : decode cX5_line 53 = .ok (.invokestatic 81, 3) := by decide +kernel
theorem dX5_line_56 : decode cX5_line 56 = .ok (.iload 6, 2) := by decide +kernel
theorem dX5_line_58 : decode cX5_line 58 = .ok (.invokestatic 81, 3) := by decide +kernel
theorem dX5_line_61 : decode cX5_line 61 = .ok (.if_icmp .eq 9, 3) := by decide +kernel
theorem dX5_line_64 : decode cX5_line 64 = .ok (.aload_n 0, 1) := by decide +kernel
theorem dX5_line_65 : decode cX5_line 65 = .ok (.iconst 2, 1) := by decide +kernel
theorem dX5_line_66 : decode cX5_line 66 = .ok (.invokevirtual 74, 3) := by decide +kernel
theorem dX5_line_69 : decode cX5_line 69 = .ok (.ireturn, 1) := by decide +kernel
theorem dX5_line_70 : decode cX5_line 70 = .ok (.iload 5, 2) := by decide +kernel
theorem dX5_line_72 : decode cX5_line 72 = .ok (.invokestatic 86, 3) := by decide +kernel
theorem dX5_line_75 : decode cX5_line 75 = .ok (.bipush 12, 2) := by decide +kernel
theorem dX5_line_77 : decode cX5_line 77 = .ok (.iload 6, 2) := by decide +kernel
theorem dX5_line_79 : decode cX5_line 79 = .ok (.invokestatic 86, 3) := by decide +kernel
theorem dX5_line_82 : decode cX5_line 82 = .ok (.imul, 1) := by decide +kernel
theorem dX5_line_83 : decode cX5_line 83 = .ok (.iadd, 1) := by decide +kernel
theorem dX5_line_84 : decode cX5_line 84 = .ok (.istore 7, 2) := by decide +kernel
theorem dX5_line_86 : decode cX5_line 86 = .ok (.aload_n 0, 1) := by decide +kernel
theorem dX5_line_87 : decode cX5_line 87 = .ok (.iload_n 1, 1) := by decide +kernel
theorem dX5_line_88 : decode cX5_line 88 = .ok (.iload_n 2, 1) := by decide +kernel
theorem dX5_line_89 : decode cX5_line 89 = .ok (.invokestatic 48, 3) := by decide +kernel
theorem dX5_line_92 : decode cX5_line 92 = .ok (.invokevirtual 91, 3) := by decide +kernel
theorem dX5_line_95 : decode cX5_line 95 = .ok (.istore 8, 2) := by decide +kernel
theorem dX5_line_97 : decode cX5_line 97 = .ok (.iload_n 1, 1) := by decide +kernel
theorem dX5_line_98 : decode cX5_line 98 = .ok (.iload_n 2, 1) := by decide +kernel
theorem dX5_line_99 : decode cX5_line 99 = .ok (.invokestatic 48, 3) := by decide +kernel
theorem dX5_line_102 : decode cX5_line 102 = .ok (.istore 9, 2) := by decide +kernel
theorem dX5_line_104 : decode cX5_line 104 = .ok (.iload 9, 2) := by decide +kernel
theorem dX5_line_106 : decode cX5_line 106 = .ok (.iload_n 3, 1) := by decide +kernel
theorem dX5_line_107 : decode cX5_line 107 = .ok (.iload 4, 2) := by decide +kernel
theorem dX5_line_109 : decode cX5_line 109 = .ok (.invokestatic 48, 3) := by decide +kernel
theorem dX5_line_112 : decode cX5_line 112 = .ok (.if_icmp .eq 24, 3) := by decide +kernel
theorem dX5_line_115 : decode cX5_line 115 = .ok (.iload 9, 2) := by decide +kernel
theorem dX5_line_117 : decode cX5_line 117 = .ok (.iload 7, 2) := by decide +kernel
theorem dX5_line_119 : decode cX5_line 119 = .ok (.iadd, 1) := by decide +kernel
theorem dX5_line_120 : decode cX5_line 120 = .ok (.istore 9, 2) := by decide +kernel
theorem dX5_line_122 : decode cX5_line 122 = .ok (.iload 8, 2) := by decide +kernel
theorem dX5_line_124 : decode cX5_line 124 = .ok (.aload_n 0, 1) := by decide +kernel
theorem dX5_line_125 : decode cX5_line 125 = .ok (.iload 9, 2) := by decide +kernel
theorem dX5_line_127 : decode cX5_line 127 = .ok (.invokevirtual 91, 3) := by decide +kernel
theorem dX5_line_130 : decode cX5_line 130 = .ok (.iadd, 1) := by decide +kernel
theorem dX5_line_131 : decode cX5_line 131 = .ok (.istore 8, 2) := by decide +kernel
theorem dX5_line_133 : decode cX5_line 133 = .ok (.goto (-29), 3) := by decide +kernel
theorem dX5_line_136 : decode cX5_line 136 = .ok (.iload 8, 2) := by decide +kernel
theorem dX5_line_138 : decode cX5_line 138 = .ok (.ireturn, 1) := by decide +kernel
theorem dX5_ring_0 : decode cX5_ring 0 = .ok (.aload_n 0, 1) := by decide +kernel
theorem dX5_ring_1 : decode cX5_ring 1 = .ok (.iconst 0, 1) := by decide +kernel
theorem dX5_ring_2 : decode cX5_ring 2 = .ok (.putfield 41, 3) := by decide +kernel
theorem dX5_ring_5 : decode cX5_ring 5 = .ok (.iload_n 3, 1) := by decide +kernel
theorem dX5_ring_6 : decode cX5_ring 6 = .ok (.iconst 3, 1) := by decide +kernel
theorem dX5_ring_7 : decode cX5_ring 7 = .ok (.if_icmp .lt 9, 3) := by decide +kernel
theorem dX5_ring_10 : decode cX5_ring 10 = .ok (.iload 4, 2) := by decide +kernel
theorem dX5_ring_12 : decode cX5_ring 12 = .ok (.iconst 3, 1) := by decide +kernel
theorem dX5_ring_13 : decode cX5_ring 13 = .ok (.if_icmp .ge 9, 3) := by decide +kernel
theorem dX5_ring_16 : decode cX5_ring 16 = .ok (.aload_n 0, 1) := by decide +kernel
theorem dX5_ring_17 : decode cX5_ring 17 = .ok (.iconst 1, 1) := by decide +kernel
theorem dX5_ring_18 : decode cX5_ring 18 = .ok (.invokevirtual 74, 3) := by decide +kernel
theorem dX5_ring_21 : decode cX5_ring 21 = .ok (.ireturn, 1) := by decide +kernel
theorem dX5_ring_22 : decode cX5_ring 22 = .ok (.aload_n 0, 1) := by decide +kernel
theorem dX5_ring_23 : decode cX5_ring 23 = .ok (.iload_n 1, 1) := by decide +kernel
theorem dX5_ring_24 : decode cX5_ring 24 = .ok (.iload_n 2, 1) := by decide +kernel
theorem dX5_ring_25 : decode cX5_ring 25 = .ok (.invokevirtual 77, 3) := by decide +kernel
theorem dX5_ring_28 : decode cX5_ring 28 = .ok (.ifCond .eq 24, 3) := by decide +kernel
theorem dX5_ring_31 : decode cX5_ring 31 = .ok (.iload_n 3, 1) := by decide +kernel
theorem dX5_ring_32 : decode cX5_ring 32 = .ok (.aload_n 0, 1) := by decide +kernel
theorem dX5_ring_33 : decode cX5_ring 33 = .ok (.getfield 7, 3) := by decide +kernel
theorem dX5_ring_36 : decode cX5_ring 36 = .ok (.iload_n 1, 1) := by decide +kernel
theorem dX5_ring_37 : decode cX5_ring 37 = .ok (.isub, 1) := by decide +kernel
theorem dX5_ring_38 : decode cX5_ring 38 = .ok (.if_icmp .gt 14, 3) := by decide +kernel
theorem dX5_ring_41 : decode cX5_ring 41 = .ok (.iload 4, 2) := by decide +kernel
theorem dX5_ring_43 : decode cX5_ring 43 = .ok (.aload_n 0, 1) := by decide +kernel
theorem dX5_ring_44 : decode cX5_ring 44 = .ok (.getfield 13, 3) := by decide +kernel
theorem dX5_ring_47 : decode cX5_ring 47 = .ok (.iload_n 2, 1) := by decide +kernel
theorem dX5_ring_48 : decode cX5_ring 48 = .ok (.isub, 1) := by decide +kernel
theorem dX5_ring_49 : decode cX5_ring 49 = .ok (.if_icmp .le 9, 3) := by decide +kernel
theorem dX5_ring_52 : decode cX5_ring 52 = .ok (.aload_n 0, 1) := by decide +kernel
theorem dX5_ring_53 : decode cX5_ring 53 = .ok (.iconst 2, 1) := by decide +kernel
theorem dX5_ring_54 : decode cX5_ring 54 = .ok (.invokevirtual 74, 3) := by decide +kernel
theorem dX5_ring_57 : decode cX5_ring 57 = .ok (.ireturn, 1) := by decide +kernel
theorem dX5_ring_58 : decode cX5_ring 58 = .ok (.iconst 0, 1) := by decide +kernel
theorem dX5_ring_59 : decode cX5_ring 59 = .ok (.istore 5, 2) := by decide +kernel
theorem dX5_ring_61 : decode cX5_ring 61 = .ok (.iconst 1, 1) := by decide +kernel
theorem dX5_ring_62 : decode cX5_ring 62 = .ok (.istore 6, 2) := by decide +kernel
theorem dX5_ring_64 : decode cX5_ring 64 = .ok (.iload 6, 2) := by decide +kernel
theorem dX5_ring_66 : decode cX5_ring 66 = .ok (.iload_n 3, 1) := by decide +kernel
theorem dX5_ring_67 : decode cX5_ring 67 = .ok (.iconst 1, 1) := by decide +kernel
theorem dX5_ring_68 : decode cX5_ring 68 = .ok (.isub, 1) := by decide +kernel
theorem dX5_ring_69 : decode cX5_ring 69 = .ok (.if_icmp .ge 44, 3) := by decide +kernel
theorem dX5_ring_72 : decode cX5_ring 72 = .ok (.iload 5, 2) := by decide +kernel
theorem dX5_ring_74 : decode cX5_ring 74 = .ok (.aload_n 0, 1) := by decide +kernel
theorem dX5_ring_75 : decode cX5_ring 75 = .ok (.iload_n 1, 1) := by decide +kernel
theorem dX5_ring_76 : decode cX5_ring 76 = .ok (.iload 6, 2) := by decide +kernel
theorem dX5_ring_78 : decode cX5_ring 78 = .ok (.iadd, 1) := by decide +kernel
theorem dX5_ring_79 : decode cX5_ring 79 = .ok (.iload_n 2, 1) := by decide +kernel
theorem dX5_ring_80 : decode cX5_ring 80 = .ok (.invokestatic 48, 3) := by decide +kernel
theorem dX5_ring_83 : decode cX5_ring 83 = .ok (.invokevirtual 91, 3) := by decide +kernel
theorem dX5_ring_86 : decode cX5_ring 86 = .ok (.aload_n 0, 1) := by decide +kernel
theorem dX5_ring_87 : decode cX5_ring 87 = .ok (.iload_n 1, 1) := by decide +kernel
theorem dX5_ring_88 : decode cX5_ring 88 = .ok (.iload 6, 2) := by decide +kernel
theorem dX5_ring_90 : decode cX5_ring 90 = .ok (.iadd, 1) := by decide +kernel
theorem dX5_ring_91 : decode cX5_ring 91 = .ok (.iload_n 2, 1) := by decide +kernel
theorem dX5_ring_92 : decode cX5_ring 92 = .ok (.iload 4, 2) := by decide +kernel
theorem dX5_ring_94 : decode cX5_ring 94 = .ok (.iadd, 1) := by decide +kernel
theorem dX5_ring_95 : decode cX5_ring 95 = .ok (.iconst 1, 1) := by decide +kernel
theorem dX5_ring_96 : decode cX5_ring 96 = .ok (.isub, 1) := by decide +kernel
theorem dX5_ring_97 : decode cX5_ring 97 = .ok (.invokestatic 48, 3) := by decide +kernel
theorem dX5_ring_100 : decode cX5_ring 100 = .ok (.invokevirtual 91, 3) := by decide +kernel
theorem dX5_ring_103 : decode cX5_ring 103 = .ok (.iadd, 1) := by decide +kernel
theorem dX5_ring_104 : decode cX5_ring 104 = .ok (.iadd, 1) := by decide +kernel
theorem dX5_ring_105 : decode cX5_ring 105 = .ok (.istore 5, 2) := by decide +kernel
theorem dX5_ring_107 : decode cX5_ring 107 = .ok (.iinc 6 1, 3) := by decide +kernel
theorem dX5_ring_110 : decode cX5_ring 110 = .ok (.goto (-46), 3) := by decide +kernel
theorem dX5_ring_113 : decode cX5_ring 113 = .ok (.iconst 1, 1) := by decide +kernel
theorem dX5_ring_114 : decode cX5_ring 114 = .ok (.istore 6, 2) := by decide +kernel
theorem dX5_ring_116 : decode cX5_ring 116 = .ok (.iload 6, 2) := by decide +kernel
theorem dX5_ring_118 : decode cX5_ring 118 = .ok (.iload 4, 2) := by decide +kernel
theorem dX5_ring_120 : decode cX5_ring 120 = .ok (.iconst 1, 1) := by decide +kernel
theorem dX5_ring_121 : decode cX5_ring 121 = .ok (.isub, 1) := by decide +kernel
theorem dX5_ring_122 : decode cX5_ring 122 = .ok (.if_icmp .ge 43, 3) := by decide +kernel
theorem dX5_ring_125 : decode cX5_ring 125 = .ok (.iload 5, 2) := by decide +kernel
theorem dX5_ring_127 : decode cX5_ring 127 = .ok (.aload_n 0, 1) := by decide +kernel
theorem dX5_ring_128 : decode cX5_ring 128 = .ok (.iload_n 1, 1) := by decide +kernel
theorem dX5_ring_129 : decode cX5_ring 129 = .ok (.iload_n 2, 1) := by decide +kernel
theorem dX5_ring_130 : decode cX5_ring 130 = .ok (.iload 6, 2) := by decide +kernel
theorem dX5_ring_132 : decode cX5_ring 132 = .ok (.iadd, 1) := by decide +kernel
theorem dX5_ring_133 : decode cX5_ring 133 = .ok (.invokestatic 48, 3) := by decide +kernel
theorem dX5_ring_136 : decode cX5_ring 136 = .ok (.invokevirtual 91, 3) := by decide +kernel
theorem dX5_ring_139 : decode cX5_ring 139 = .ok (.aload_n 0, 1) := by decide +kernel
theorem dX5_ring_140 : decode cX5_ring 140 = .ok (.iload_n 1, 1) := by decide +kernel
theorem dX5_ring_141 : decode cX5_ring 141 = .ok (.iload_n 3, 1) := by decide +kernel
theorem dX5_ring_142 : decode cX5_ring 142 = .ok (.iadd, 1) := by decide +kernel
theorem dX5_ring_143 : decode cX5_ring 143 = .ok (.iconst 1, 1) := by decide +kernel
theorem dX5_ring_144 : decode cX5_ring 144 = .ok (.isub, 1) := by decide +kernel
theorem dX5_ring_145 : decode cX5_ring 145 = .ok (.iload_n 2, 1) := by decide +kernel
theorem dX5_ring_146 : decode cX5_ring 146 = .ok (.iload 6, 2) := by decide +kernel
theorem dX5_ring_148 : decode cX5_ring 148 = .ok (.iadd, 1) := by decide +kernel
theorem dX5_ring_149 : decode cX5_ring 149 = .ok (.invokestatic 48, 3) := by decide +kernel
theorem dX5_ring_152 : decode cX5_ring 152 = .ok (.invokevirtual 91, 3) := by decide +kernel
theorem dX5_ring_155 : decode cX5_ring 155 = .ok (.iadd, 1) := by decide +kernel
theorem dX5_ring_156 : decode cX5_ring 156 = .ok (.iadd, 1) := by decide +kernel
theorem dX5_ring_157 : decode cX5_ring 157 = .ok (.istore 5, 2) := by decide +kernel
theorem dX5_ring_159 : decode cX5_ring 159 = .ok (.iinc 6 1, 3) := by decide +kernel
theorem dX5_ring_162 : decode cX5_ring 162 = .ok (.goto (-46), 3) := by decide +kernel
theorem dX5_ring_165 : decode cX5_ring 165 = .ok (.iload 5, 2) := by decide +kernel
theorem dX5_ring_167 : decode cX5_ring 167 = .ok (.ireturn, 1) := by decide +kernel
theorem dX5_stamp_0 : decode cX5_stamp 0 = .ok (.aload_n 0, 1) := by decide +kernel
theorem dX5_stamp_1 : decode cX5_stamp 1 = .ok (.iconst 0, 1) := by decide +kernel
theorem dX5_stamp_2 : decode cX5_stamp 2 = .ok (.putfield 41, 3) := by decide +kernel
theorem dX5_stamp_5 : decode cX5_stamp 5 = .ok (.iload_n 1, 1) := by decide +kernel
theorem dX5_stamp_6 : decode cX5_stamp 6 = .ok (.iconst 0, 1) := by decide +kernel
theorem dX5_stamp_7 : decode cX5_stamp 7 = .ok (.iconst 3, 1) := by decide +kernel
theorem dX5_stamp_8 : decode cX5_stamp 8 = .ok (.invokestatic 44, 3) := by decide +kernel
theorem dX5_stamp_11 : decode cX5_stamp 11 = .ok (.ifCond .eq 43, 3) := by decide +kernel
theorem dX5_stamp_14 : decode cX5_stamp 14 = .ok (.iload_n 2, 1) := by decide +kernel
theorem dX5_stamp_15 : decode cX5_stamp 15 = .ok (.iconst 0, 1) := by decide +kernel
theorem dX5_stamp_16 : decode cX5_stamp 16 = .ok (.iconst 3, 1) := by decide +kernel
theorem dX5_stamp_17 : decode cX5_stamp 17 = .ok (.invokestatic 44, 3) := by decide +kernel
theorem dX5_stamp_20 : decode cX5_stamp 20 = .ok (.ifCond .eq 34, 3) := by decide +kernel
theorem dX5_stamp_23 : decode cX5_stamp 23 = .ok (.aload_n 0, 1) := by decide +kernel
theorem dX5_stamp_24 : decode cX5_stamp 24 = .ok (.iload_n 3, 1) := by decide +kernel
theorem dX5_stamp_25 : decode cX5_stamp 25 = .ok (.iload 4, 2) := by decide +kernel
theorem dX5_stamp_27 : decode cX5_stamp 27 = .ok (.invokevirtual 77, 3) := by decide +kernel
theorem dX5_stamp_30 : decode cX5_stamp 30 = .ok (.ifCond .eq 24, 3) := by decide +kernel
theorem dX5_stamp_33 : decode cX5_stamp 33 = .ok (.iload_n 3, 1) := by decide +kernel
theorem dX5_stamp_34 : decode cX5_stamp 34 = .ok (.iconst 2, 1) := by decide +kernel
theorem dX5_stamp_35 : decode cX5_stamp 35 = .ok (.iadd, 1) := by decide +kernel
theorem dX5_stamp_36 : decode cX5_stamp 36 = .ok (.aload_n 0, 1) := by decide +kernel
theorem dX5_stamp_37 : decode cX5_stamp 37 = .ok (.getfield 7, 3) := by decide +kernel
theorem dX5_stamp_40 : decode cX5_stamp 40 = .ok (.if_icmp .ge 14, 3) := by decide +kernel
theorem dX5_stamp_43 : decode cX5_stamp 43 = .ok (.iload 4, 2) := by decide +kernel
theorem dX5_stamp_45 : decode cX5_stamp 45 = .ok (.iconst 2, 1) := by decide +kernel
theorem dX5_stamp_46 : decode cX5_stamp 46 = .ok (.iadd, 1) := by decide +kernel
theorem dX5_stamp_47 : decode cX5_stamp 47 = .ok (.aload_n 0, 1) := by decide +kernel
theorem dX5_stamp_48 : decode cX5_stamp 48 = .ok (.getfield 13, 3) := by decide +kernel
theorem dX5_stamp_51 : decode cX5_stamp 51 = .ok (.if_icmp .lt 9, 3) := by decide +kernel
theorem dX5_stamp_54 : decode cX5_stamp 54 = .ok (.aload_n 0, 1) := by decide +kernel
theorem dX5_stamp_55 : decode cX5_stamp 55 = .ok (.iconst 1, 1) := by decide +kernel
theorem dX5_stamp_56 : decode cX5_stamp 56 = .ok (.invokevirtual 74, 3) := by decide +kernel
theorem dX5_stamp_59 : decode cX5_stamp 59 = .ok (.ireturn, 1) := by decide +kernel
theorem dX5_stamp_60 : decode cX5_stamp 60 = .ok (.iconst 0, 1) := by decide +kernel
theorem dX5_stamp_61 : decode cX5_stamp 61 = .ok (.istore 5, 2) := by decide +kernel
theorem dX5_stamp_63 : decode cX5_stamp 63 = .ok (.getstatic 94, 3) := by decide +kernel
theorem dX5_stamp_66 : decode cX5_stamp 66 = .ok (.iload_n 1, 1) := by decide +kernel
theorem dX5_stamp_67 : decode cX5_stamp 67 = .ok (.aaload, 1) := by decide +kernel
theorem dX5_stamp_68 : decode cX5_stamp 68 = .ok (.astore 6, 2) := by decide +kernel
theorem dX5_stamp_70 : decode cX5_stamp 70 = .ok (.aload 6, 2) := by decide +kernel
theorem dX5_stamp_72 : decode cX5_stamp 72 = .ok (.arraylength, 1) := by decide +kernel
theorem dX5_stamp_73 : decode cX5_stamp 73 = .ok (.istore 7, 2) := by decide +kernel
theorem dX5_stamp_75 : decode cX5_stamp 75 = .ok (.iconst 0, 1) := by decide +kernel
theorem dX5_stamp_76 : decode cX5_stamp 76 = .ok (.istore 8, 2) := by decide +kernel
theorem dX5_stamp_78 : decode cX5_stamp 78 = .ok (.iload 8, 2) := by decide +kernel
theorem dX5_stamp_80 : decode cX5_stamp 80 = .ok (.iload 7, 2) := by decide +kernel
theorem dX5_stamp_82 : decode cX5_stamp 82 = .ok (.if_icmp .ge 71, 3) := by decide +kernel
theorem dX5_stamp_85 : decode cX5_stamp 85 = .ok (.aload 6, 2) := by decide +kernel
theorem dX5_stamp_87 : decode cX5_stamp 87 = .ok (.iload 8, 2) := by decide +kernel
theorem dX5_stamp_89 : decode cX5_stamp 89 = .ok (.iaload, 1) := by decide +kernel
theorem dX5_stamp_90 : decode cX5_stamp 90 = .ok (.istore 9, 2) := by decide +kernel
theorem dX5_stamp_92 : decode cX5_stamp 92 = .ok (.iload 9, 2) := by decide +kernel
theorem dX5_stamp_94 : decode cX5_stamp 94 = .ok (.iconst 3, 1) := by decide +kernel
theorem dX5_stamp_95 : decode cX5_stamp 95 = .ok (.irem, 1) := by decide +kernel
theorem dX5_stamp_96 : decode cX5_stamp 96 = .ok (.istore 10, 2) := by decide +kernel
theorem dX5_stamp_98 : decode cX5_stamp 98 = .ok (.iload 9, 2) := by decide +kernel
theorem dX5_stamp_100 : decode cX5_stamp 100 = .ok (.iconst 3, 1) := by decide +kernel
theorem dX5_stamp_101 : decode cX5_stamp 101 = .ok (.idiv, 1) := by decide +kernel
theorem dX5_stamp_102 : decode cX5_stamp 102 = .ok (.istore 11, 2) := by decide +kernel
theorem dX5_stamp_104 : decode cX5_stamp 104 = .ok (.iconst 0, 1) := by decide +kernel
theorem dX5_stamp_105 : decode cX5_stamp 105 = .ok (.istore 12, 2) := by decide +kernel
theorem dX5_stamp_107 : decode cX5_stamp 107 = .ok (.iload 12, 2) := by decide +kernel
theorem dX5_stamp_109 : decode cX5_stamp 109 = .ok (.iload_n 2, 1) := by decide +kernel
theorem dX5_stamp_110 : decode cX5_stamp 110 = .ok (.if_icmp .ge 23, 3) := by decide +kernel
theorem dX5_stamp_113 : decode cX5_stamp 113 = .ok (.iconst 2, 1) := by decide +kernel
theorem dX5_stamp_114 : decode cX5_stamp 114 = .ok (.iload 11, 2) := by decide +kernel
theorem dX5_stamp_116 : decode cX5_stamp 116 = .ok (.isub, 1) := by decide +kernel
theorem dX5_stamp_117 : decode cX5_stamp 117 = .ok (.istore 13, 2) := by decide +kernel
theorem dX5_stamp_119 : decode cX5_stamp 119 = .ok (.iload 10, 2) := by decide +kernel
theorem dX5_stamp_121 : decode cX5_stamp 121 = .ok (.istore 11, 2) := by decide +kernel
theorem dX5_stamp_123 : decode cX5_stamp 123 = .ok (.iload 13, 2) := by decide +kernel
theorem dX5_stamp_125 : decode cX5_stamp 125 = .ok (.istore 10, 2) := by decide +kernel
theorem dX5_stamp_127 : decode cX5_stamp 127 = .ok (.iinc 12 1, 3) := by decide +kernel
theorem dX5_stamp_130 : decode cX5_stamp 130 = .ok (.goto (-23), 3) := by decide +kernel
theorem dX5_stamp_133 : decode cX5_stamp 133 = .ok (.iload 5, 2) := by decide +kernel
theorem dX5_stamp_135 : decode cX5_stamp 135 = .ok (.iconst 1, 1) := by decide +kernel
theorem dX5_stamp_136 : decode cX5_stamp 136 = .ok (.iconst 3, 1) := by decide +kernel
theorem dX5_stamp_137 : decode cX5_stamp 137 = .ok (.iload 11, 2) := by decide +kernel
theorem dX5_stamp_139 : decode cX5_stamp 139 = .ok (.imul, 1) := by decide +kernel
theorem dX5_stamp_140 : decode cX5_stamp 140 = .ok (.iload 10, 2) := by decide +kernel
theorem dX5_stamp_142 : decode cX5_stamp 142 = .ok (.iadd, 1) := by decide +kernel
theorem dX5_stamp_143 : decode cX5_stamp 143 = .ok (.ishl, 1) := by decide +kernel
theorem dX5_stamp_144 : decode cX5_stamp 144 = .ok (.ior, 1) := by decide +kernel
theorem dX5_stamp_145 : decode cX5_stamp 145 = .ok (.istore 5, 2) := by decide +kernel
theorem dX5_stamp_147 : decode cX5_stamp 147 = .ok (.iinc 8 1, 3) := by decide +kernel
theorem dX5_stamp_150 : decode cX5_stamp 150 = .ok (.goto (-72), 3) := by decide +kernel
theorem dX5_stamp_153 : decode cX5_stamp 153 = .ok (.iconst 0, 1) := by decide +kernel
theorem dX5_stamp_154 : decode cX5_stamp 154 = .ok (.istore 6, 2) := by decide +kernel
theorem dX5_stamp_156 : decode cX5_stamp 156 = .ok (.iconst 0, 1) := by decide +kernel
theorem dX5_stamp_157 : decode cX5_stamp 157 = .ok (.istore 7, 2) := by decide +kernel
theorem dX5_stamp_159 : decode cX5_stamp 159 = .ok (.iload 7, 2) := by decide +kernel
theorem dX5_stamp_161 : decode cX5_stamp 161 = .ok (.bipush 9, 2) := by decide +kernel
theorem dX5_stamp_163 : decode cX5_stamp 163 = .ok (.if_icmp .ge 67, 3) := by decide +kernel
theorem dX5_stamp_166 : decode cX5_stamp 166 = .ok (.iload_n 3, 1) := by decide +kernel
theorem dX5_stamp_167 : decode cX5_stamp 167 = .ok (.iload 7, 2) := by decide +kernel
theorem dX5_stamp_169 : decode cX5_stamp 169 = .ok (.iconst 3, 1) := by decide +kernel
theorem dX5_stamp_170 : decode cX5_stamp 170 = .ok (.irem, 1) := by decide +kernel
theorem dX5_stamp_171 : decode cX5_stamp 171 = .ok (.iadd, 1) := by decide +kernel
theorem dX5_stamp_172 : decode cX5_stamp 172 = .ok (.iload 4, 2) := by decide +kernel
theorem dX5_stamp_174 : decode cX5_stamp 174 = .ok (.iload 7, 2) := by decide +kernel
theorem dX5_stamp_176 : decode cX5_stamp 176 = .ok (.iconst 3, 1) := by decide +kernel
theorem dX5_stamp_177 : decode cX5_stamp 177 = .ok (.idiv, 1) := by decide +kernel
theorem dX5_stamp_178 : decode cX5_stamp 178 = .ok (.iadd, 1) := by decide +kernel
theorem dX5_stamp_179 : decode cX5_stamp 179 = .ok (.invokestatic 48, 3) := by decide +kernel
theorem dX5_stamp_182 : decode cX5_stamp 182 = .ok (.istore 8, 2) := by decide +kernel
theorem dX5_stamp_184 : decode cX5_stamp 184 = .ok (.iload 5, 2) := by decide +kernel
theorem dX5_stamp_186 : decode cX5_stamp 186 = .ok (.iload 7, 2) := by decide +kernel
theorem dX5_stamp_188 : decode cX5_stamp 188 = .ok (.ishr, 1) := by decide +kernel
theorem dX5_stamp_189 : decode cX5_stamp 189 = .ok (.iconst 1, 1) := by decide +kernel
theorem dX5_stamp_190 : decode cX5_stamp 190 = .ok (.iand, 1) := by decide +kernel
theorem dX5_stamp_191 : decode cX5_stamp 191 = .ok (.istore 9, 2) := by decide +kernel
theorem dX5_stamp_193 : decode cX5_stamp 193 = .ok (.iload 6, 2) := by decide +kernel
theorem dX5_stamp_195 : decode cX5_stamp 195 = .ok (.aload_n 0, 1) := by decide +kernel
theorem dX5_stamp_196 : decode cX5_stamp 196 = .ok (.getfield 16, 3) := by decide +kernel
theorem dX5_stamp_199 : decode cX5_stamp 199 = .ok (.iload 8, 2) := by decide +kernel
theorem dX5_stamp_201 : decode cX5_stamp 201 = .ok (.iaload, 1) := by decide +kernel
theorem dX5_stamp_202 : decode cX5_stamp 202 = .ok (.iload 9, 2) := by decide +kernel
theorem dX5_stamp_204 : decode cX5_stamp 204 = .ok (.if_icmp .ne 7, 3) := by decide +kernel
theorem dX5_stamp_207 : decode cX5_stamp 207 = .ok (.iconst 0, 1) := by decide +kernel
theorem dX5_stamp_208 : decode cX5_stamp 208 = .ok (.goto 4, 3) := by decide +kernel
theorem dX5_stamp_211 : decode cX5_stamp 211 = .ok (.iconst 1, 1) := by decide +kernel
theorem dX5_stamp_212 : decode cX5_stamp 212 = .ok (.iadd, 1) := by decide +kernel
theorem dX5_stamp_213 : decode cX5_stamp 213 = .ok (.istore 6, 2) := by decide +kernel
theorem dX5_stamp_215 : decode cX5_stamp 215 = .ok (.aload_n 0, 1) := by decide +kernel
theorem dX5_stamp_216 : decode cX5_stamp 216 = .ok (.getfield 16, 3) := by decide +kernel
theorem dX5_stamp_219 : decode cX5_stamp 219 = .ok (.iload 8, 2) := by decide +kernel
theorem dX5_stamp_221 : decode cX5_stamp 221 = .ok (.iload 9, 2) := by decide +kernel
theorem dX5_stamp_223 : decode cX5_stamp 223 = .ok (.iastore, 1) := by decide +kernel
theorem dX5_stamp_224 : decode cX5_stamp 224 = .ok (.iinc 7 1, 3) := by decide +kernel
theorem dX5_stamp_227 : decode cX5_stamp 227 = .ok (.goto (-68), 3) := by decide +kernel
theorem dX5_stamp_230 : decode cX5_stamp 230 = .ok (.iload 6, 2) := by decide +kernel
theorem dX5_stamp_232 : decode cX5_stamp 232 = .ok (.ireturn, 1) := by decide +kernel
theorem dX5_spark_0 : decode cX5_spark 0 = .ok (.aload_n 0, 1) := by decide +kernel
theorem dX5_spark_1 : decode cX5_spark 1 = .ok (.iconst 0, 1) := by decide +kernel
theorem dX5_spark_2 : decode cX5_spark 2 = .ok (.putfield 41, 3) := by decide +kernel
theorem dX5_spark_5 : decode cX5_spark 5 = .ok (.aload_n 0, 1) := by decide +kernel
theorem dX5_spark_6 : decode cX5_spark 6 = .ok (.iload_n 1, 1) := by decide +kernel
theorem dX5_spark_7 : decode cX5_spark 7 = .ok (.iload_n 2, 1) := by decide +kernel
theorem dX5_spark_8 : decode cX5_spark 8 = .ok (.invokevirtual 77, 3) := by decide +kernel
theorem dX5_spark_11 : decode cX5_spark 11 = .ok (.ifCond .eq 13, 3) := by decide +kernel
theorem dX5_spark_14 : decode cX5_spark 14 = .ok (.iload_n 3, 1) := by decide +kernel
theorem dX5_spark_15 : decode cX5_spark 15 = .ok (.iconst 0, 1) := by decide +kernel
theorem dX5_spark_16 : decode cX5_spark 16 = .ok (.bipush 7, 2) := by decide +kernel
theorem dX5_spark_18 : decode cX5_spark 18 = .ok (.invokestatic 44, 3) := by decide +kernel
theorem dX5_spark_21 : decode cX5_spark 21 = .ok (.ifCond .ne 9, 3) := by decide +kernel
theorem dX5_spark_24 : decode cX5_spark 24 = .ok (.aload_n 0, 1) := by decide +kernel
theorem dX5_spark_25 : decode cX5_spark 25 = .ok (.iconst 1, 1) := by decide +kernel
theorem dX5_spark_26 : decode cX5_spark 26 = .ok (.invokevirtual 74, 3) := by decide +kernel
theorem dX5_spark_29 : decode cX5_spark 29 = .ok (.ireturn, 1) := by decide +kernel
theorem dX5_spark_30 : decode cX5_spark 30 = .ok (.iload_n 1, 1) := by decide +kernel
theorem dX5_spark_31 : decode cX5_spark 31 = .ok (.iload_n 2, 1) := by decide +kernel
theorem dX5_spark_32 : decode cX5_spark 32 = .ok (.invokestatic 48, 3) := by decide +kernel
theorem dX5_spark_35 : decode cX5_spark 35 = .ok (.istore 4, 2) := by decide +kernel
theorem dX5_spark_37 : decode cX5_spark 37 = .ok (.iload 4, 2) := by decide +kernel
theorem dX5_spark_39 : decode cX5_spark 39 = .ok (.getstatic 52, 3) := by decide +kernel
theorem dX5_spark_42 : decode cX5_spark 42 = .ok (.iload_n 3, 1) := by decide +kernel
theorem dX5_spark_43 : decode cX5_spark 43 = .ok (.iaload, 1) := by decide +kernel
theorem dX5_spark_44 : decode cX5_spark 44 = .ok (.isub, 1) := by decide +kernel
theorem dX5_spark_45 : decode cX5_spark 45 = .ok (.istore 5, 2) := by decide +kernel
theorem dX5_spark_47 : decode cX5_spark 47 = .ok (.aload_n 0, 1) := by decide +kernel
theorem dX5_spark_48 : decode cX5_spark 48 = .ok (.getfield 16, 3) := by decide +kernel
theorem dX5_spark_51 : decode cX5_spark 51 = .ok (.iload 4, 2) := by decide +kernel
theorem dX5_spark_53 : decode cX5_spark 53 = .ok (.iaload, 1) := by decide +kernel
theorem dX5_spark_54 : decode cX5_spark 54 = .ok (.iconst 1, 1) := by decide +kernel
theorem dX5_spark_55 : decode cX5_spark 55 = .ok (.if_icmp .ne 14, 3) := by decide +kernel
theorem dX5_spark_58 : decode cX5_spark 58 = .ok (.aload_n 0, 1) := by decide +kernel
theorem dX5_spark_59 : decode cX5_spark 59 = .ok (.getfield 16, 3) := by decide +kernel
theorem dX5_spark_62 : decode cX5_spark 62 = .ok (.iload 5, 2) := by decide +kernel
theorem dX5_spark_64 : decode cX5_spark 64 = .ok (.iaload, 1) := by decide +kernel
theorem dX5_spark_65 : decode cX5_spark 65 = .ok (.iconst 1, 1) := by decide +kernel
theorem dX5_spark_66 : decode cX5_spark 66 = .ok (.if_icmp .eq 9, 3) := by decide +kernel
theorem dX5_spark_69 : decode cX5_spark 69 = .ok (.aload_n 0, 1) := by decide +kernel
theorem dX5_spark_70 : decode cX5_spark 70 = .ok (.iconst 2, 1) := by decide +kernel
theorem dX5_spark_71 : decode cX5_spark 71 = .ok (.invokevirtual 74, 3) := by decide +kernel
theorem dX5_spark_74 : decode cX5_spark 74 = .ok (.ireturn, 1) := by decide +kernel
theorem dX5_spark_75 : decode cX5_spark 75 = .ok (.aload_n 0, 1) := by decide +kernel
theorem dX5_spark_76 : decode cX5_spark 76 = .ok (.getfield 16, 3) := by decide +kernel
theorem dX5_spark_79 : decode cX5_spark 79 = .ok (.iload 4, 2) := by decide +kernel
theorem dX5_spark_81 : decode cX5_spark 81 = .ok (.iconst 2, 1) := by decide +kernel
theorem dX5_spark_82 : decode cX5_spark 82 = .ok (.iastore, 1) := by decide +kernel
theorem dX5_spark_83 : decode cX5_spark 83 = .ok (.aload_n 0, 1) := by decide +kernel
theorem dX5_spark_84 : decode cX5_spark 84 = .ok (.getfield 16, 3) := by decide +kernel
theorem dX5_spark_87 : decode cX5_spark 87 = .ok (.iload 5, 2) := by decide +kernel
theorem dX5_spark_89 : decode cX5_spark 89 = .ok (.iconst 3, 1) := by decide +kernel
theorem dX5_spark_90 : decode cX5_spark 90 = .ok (.iastore, 1) := by decide +kernel
theorem dX5_spark_91 : decode cX5_spark 91 = .ok (.aload_n 0, 1) := by decide +kernel
theorem dX5_spark_92 : decode cX5_spark 92 = .ok (.iconst 2, 1) := by decide +kernel
theorem dX5_spark_93 : decode cX5_spark 93 = .ok (.invokevirtual 98, 3) := by decide +kernel
theorem dX5_spark_96 : decode cX5_spark 96 = .ok (.ireturn, 1) := by decide +kernel
theorem dX5_lamp_0 : decode cX5_lamp 0 = .ok (.aload_n 0, 1) := by decide +kernel
theorem dX5_lamp_1 : decode cX5_lamp 1 = .ok (.iconst 0, 1) := by decide +kernel
theorem dX5_lamp_2 : decode cX5_lamp 2 = .ok (.putfield 41, 3) := by decide +kernel
theorem dX5_lamp_5 : decode cX5_lamp 5 = .ok (.aload_n 0, 1) := by decide +kernel
theorem dX5_lamp_6 : decode cX5_lamp 6 = .ok (.iload_n 1, 1) := by decide +kernel
theorem dX5_lamp_7 : decode cX5_lamp 7 = .ok (.iload_n 2, 1) := by decide +kernel
theorem dX5_lamp_8 : decode cX5_lamp 8 = .ok (.invokevirtual 77, 3) := by decide +kernel
theorem dX5_lamp_11 : decode cX5_lamp 11 = .ok (.ifCond .ne 9, 3) := by decide +kernel
theorem dX5_lamp_14 : decode cX5_lamp 14 = .ok (.aload_n 0, 1) := by decide +kernel
theorem dX5_lamp_15 : decode cX5_lamp 15 = .ok (.iconst 1, 1) := by decide +kernel
theorem dX5_lamp_16 : decode cX5_lamp 16 = .ok (.invokevirtual 74, 3) := by decide +kernel
theorem dX5_lamp_19 : decode cX5_lamp 19 = .ok (.ireturn, 1) := by decide +kernel
theorem dX5_lamp_20 : decode cX5_lamp 20 = .ok (.aload_n 0, 1) := by decide +kernel
theorem dX5_lamp_21 : decode cX5_lamp 21 = .ok (.getfield 65, 3) := by decide +kernel
theorem dX5_lamp_24 : decode cX5_lamp 24 = .ok (.iconst 5, 1) := by decide +kernel
theorem dX5_lamp_25 : decode cX5_lamp 25 = .ok (.if_icmp .ne 9, 3) := by decide +kernel
theorem dX5_lamp_28 : decode cX5_lamp 28 = .ok (.aload_n 0, 1) := by decide +kernel
theorem dX5_lamp_29 : decode cX5_lamp 29 = .ok (.iconst 2, 1) := by decide +kernel
theorem dX5_lamp_30 : decode cX5_lamp 30 = .ok (.invokevirtual 74, 3) := by decide +kernel
theorem dX5_lamp_33 : decode cX5_lamp 33 = .ok (.ireturn, 1) := by decide +kernel
theorem dX5_lamp_34 : decode cX5_lamp 34 = .ok (.aload_n 0, 1) := by decide +kernel
theorem dX5_lamp_35 : decode cX5_lamp 35 = .ok (.getfield 26, 3) := by decide +kernel
theorem dX5_lamp_38 : decode cX5_lamp 38 = .ok (.iconst 4, 1) := by decide +kernel
theorem dX5_lamp_39 : decode cX5_lamp 39 = .ok (.aload_n 0, 1) := by decide +kernel
theorem dX5_lamp_40 : decode cX5_lamp 40 = .ok (.getfield 65, 3) := by decide +kernel
theorem dX5_lamp_43 : decode cX5_lamp 43 = .ok (.imul, 1) := by decide +kernel
theorem dX5_lamp_44 : decode cX5_lamp 44 = .ok (.iload_n 1, 1) := by decide +kernel
theorem dX5_lamp_45 : decode cX5_lamp 45 = .ok (.iload_n 2, 1) := by decide +kernel
theorem dX5_lamp_46 : decode cX5_lamp 46 = .ok (.invokestatic 48, 3) := by decide +kernel
theorem dX5_lamp_49 : decode cX5_lamp 49 = .ok (.iastore, 1) := by decide +kernel
theorem dX5_lamp_50 : decode cX5_lamp 50 = .ok (.aload_n 0, 1) := by decide +kernel
theorem dX5_lamp_51 : decode cX5_lamp 51 = .ok (.getfield 26, 3) := by decide +kernel
theorem dX5_lamp_54 : decode cX5_lamp 54 = .ok (.iconst 4, 1) := by decide +kernel
theorem dX5_lamp_55 : decode cX5_lamp 55 = .ok (.aload_n 0, 1) := by decide +kernel
theorem dX5_lamp_56 : decode cX5_lamp 56 = .ok (.getfield 65, 3) := by decide +kernel
theorem dX5_lamp_59 : decode cX5_lamp 59 = .ok (.imul, 1) := by decide +kernel
theorem dX5_lamp_60 : decode cX5_lamp 60 = .ok (.iconst 1, 1) := by decide +kernel
theorem dX5_lamp_61 : decode cX5_lamp 61 = .ok (.iadd, 1) := by decide +kernel
theorem dX5_lamp_62 : decode cX5_lamp 62 = .ok (.iconst 0, 1) := by decide +kernel
theorem dX5_lamp_63 : decode cX5_lamp 63 = .ok (.iastore, 1) := by decide +kernel
theorem dX5_lamp_64 : decode cX5_lamp 64 = .ok (.aload_n 0, 1) := by decide +kernel
theorem dX5_lamp_65 : decode cX5_lamp 65 = .ok (.getfield 26, 3) := by decide +kernel
theorem dX5_lamp_68 : decode cX5_lamp 68 = .ok (.iconst 4, 1) := by decide +kernel
theorem dX5_lamp_69 : decode cX5_lamp 69 = .ok (.aload_n 0, 1) := by decide +kernel
theorem dX5_lamp_70 : decode cX5_lamp 70 = .ok (.getfield 65, 3) := by decide +kernel
theorem dX5_lamp_73 : decode cX5_lamp 73 = .ok (.imul, 1) := by decide +kernel
theorem dX5_lamp_74 : decode cX5_lamp 74 = .ok (.iconst 2, 1) := by decide +kernel
theorem dX5_lamp_75 : decode cX5_lamp 75 = .ok (.iadd, 1) := by decide +kernel
theorem dX5_lamp_76 : decode cX5_lamp 76 = .ok (.iconst 0, 1) := by decide +kernel
theorem dX5_lamp_77 : decode cX5_lamp 77 = .ok (.iastore, 1) := by decide +kernel
theorem dX5_lamp_78 : decode cX5_lamp 78 = .ok (.aload_n 0, 1) := by decide +kernel
theorem dX5_lamp_79 : decode cX5_lamp 79 = .ok (.dup, 1) := by decide +kernel
theorem dX5_lamp_80 : decode cX5_lamp 80 = .ok (.getfield 65, 3) := by decide +kernel
theorem dX5_lamp_83 : decode cX5_lamp 83 = .ok (.iconst 1, 1) := by decide +kernel
theorem dX5_lamp_84 : decode cX5_lamp 84 = .ok (.iadd, 1) := by decide +kernel
theorem dX5_lamp_85 : decode cX5_lamp 85 = .ok (.putfield 65, 3) := by decide +kernel
theorem dX5_lamp_88 : decode cX5_lamp 88 = .ok (.aload_n 0, 1) := by decide +kernel
theorem dX5_lamp_89 : decode cX5_lamp 89 = .ok (.getfield 65, 3) := by decide +kernel
theorem dX5_lamp_92 : decode cX5_lamp 92 = .ok (.iconst 1, 1) := by decide +kernel
theorem dX5_lamp_93 : decode cX5_lamp 93 = .ok (.isub, 1) := by decide +kernel
theorem dX5_lamp_94 : decode cX5_lamp 94 = .ok (.ireturn, 1) := by decide +kernel
theorem dX5_pass_0 : decode cX5_pass 0 = .ok (.aload_n 0, 1) := by decide +kernel
theorem dX5_pass_1 : decode cX5_pass 1 = .ok (.iconst 0, 1) := by decide +kernel
theorem dX5_pass_2 : decode cX5_pass 2 = .ok (.putfield 41, 3) := by decide +kernel
theorem dX5_pass_5 : decode cX5_pass 5 = .ok (.iload_n 1, 1) := by decide +kernel
theorem dX5_pass_6 : decode cX5_pass 6 = .ok (.iconst 1, 1) := by decide +kernel
theorem dX5_pass_7 : decode cX5_pass 7 = .ok (.bipush 100, 2) := by decide +kernel
theorem dX5_pass_9 : decode cX5_pass 9 = .ok (.invokestatic 44, 3) := by decide +kernel
theorem dX5_pass_12 : decode cX5_pass 12 = .ok (.ifCond .ne 9, 3) := by decide +kernel
theorem dX5_pass_15 : decode cX5_pass 15 = .ok (.aload_n 0, 1) := by decide +kernel
theorem dX5_pass_16 : decode cX5_pass 16 = .ok (.iconst 1, 1) := by decide +kernel
theorem dX5_pass_17 : decode cX5_pass 17 = .ok (.invokevirtual 74, 3) := by decide +kernel
theorem dX5_pass_20 : decode cX5_pass 20 = .ok (.ireturn, 1) := by decide +kernel
theorem dX5_pass_21 : decode cX5_pass 21 = .ok (.iconst 0, 1) := by decide +kernel
theorem dX5_pass_22 : decode cX5_pass 22 = .ok (.istore_n 2, 1) := by decide +kernel
theorem dX5_pass_23 : decode cX5_pass 23 = .ok (.iload_n 2, 1) := by decide +kernel
theorem dX5_pass_24 : decode cX5_pass 24 = .ok (.iload_n 1, 1) := by decide +kernel
theorem dX5_pass_25 : decode cX5_pass 25 = .ok (.if_icmp .ge 45, 3) := by decide +kernel
theorem dX5_pass_28 : decode cX5_pass 28 = .ok (.aload_n 0, 1) := by decide +kernel
theorem dX5_pass_29 : decode cX5_pass 29 = .ok (.invokevirtual 101, 3) := by decide +kernel
theorem dX5_pass_32 : decode cX5_pass 32 = .ok (.aload_n 0, 1) := by decide +kernel
theorem dX5_pass_33 : decode cX5_pass 33 = .ok (.dup, 1) := by decide +kernel
theorem dX5_pass_34 : decode cX5_pass 34 = .ok (.getfield 104, 3) := by decide +kernel
theorem dX5_pass_37 : decode cX5_pass 37 = .ok (.iconst 1, 1) := by decide +kernel
theorem dX5_pass_38 : decode cX5_pass 38 = .ok (.iadd, 1) := by decide +kernel
theorem dX5_pass_39 : decode cX5_pass 39 = .ok (.putfield 104, 3) := by decide +kernel
theorem dX5_pass_42 : decode cX5_pass 42 = .ok (.aload_n 0, 1) := by decide +kernel
theorem dX5_pass_43 : decode cX5_pass 43 = .ok (.aload_n 0, 1) := by decide +kernel
theorem dX5_pass_44 : decode cX5_pass 44 = .ok (.getfield 104, 3) := by decide +kernel
theorem dX5_pass_47 : decode cX5_pass 47 = .ok (.invokevirtual 107, 3) := by decide +kernel
theorem dX5_pass_50 : decode cX5_pass 50 = .ok (.aload_n 0, 1) := by decide +kernel
theorem dX5_pass_51 : decode cX5_pass 51 = .ok (.dup, 1) := by decide +kernel
theorem dX5_pass_52 : decode cX5_pass 52 = .ok (.getfield 111, 3) := by decide +kernel
theorem dX5_pass_55 : decode cX5_pass 55 = .ok (.aload_n 0, 1) := by decide +kernel
theorem dX5_pass_56 : decode cX5_pass 56 = .ok (.iconst 2, 1) := by decide +kernel
theorem dX5_pass_57 : decode cX5_pass 57 = .ok (.invokevirtual 98, 3) := by decide +kernel
theorem dX5_pass_60 : decode cX5_pass 60 = .ok (.iadd, 1) := by decide +kernel
theorem dX5_pass_61 : decode cX5_pass 61 = .ok (.putfield 111, 3) := by decide +kernel
theorem dX5_pass_64 : decode cX5_pass 64 = .ok (.iinc 2 1, 3) := by decide +kernel
theorem dX5_pass_67 : decode cX5_pass 67 = .ok (.goto (-44), 3) := by decide +kernel
theorem dX5_pass_70 : decode cX5_pass 70 = .ok (.aload_n 0, 1) := by decide +kernel
theorem dX5_pass_71 : decode cX5_pass 71 = .ok (.iconst 2, 1) := by decide +kernel
theorem dX5_pass_72 : decode cX5_pass 72 = .ok (.invokevirtual 98, 3) := by decide +kernel
theorem dX5_pass_75 : decode cX5_pass 75 = .ok (.ireturn, 1) := by decide +kernel
theorem dX5_spread_0 : decode cX5_spread 0 = .ok (.iconst 0, 1) := by decide +kernel
theorem dX5_spread_1 : decode cX5_spread 1 = .ok (.istore_n 2, 1) := by decide +kernel
theorem dX5_spread_2 : decode cX5_spread 2 = .ok (.iload_n 2, 1) := by decide +kernel
theorem dX5_spread_3 : decode cX5_spread 3 = .ok (.sipush 144, 3) := by decide +kernel
theorem dX5_spread_6 : decode cX5_spread 6 = .ok (.if_icmp .ge 16, 3) := by decide +kernel
theorem dX5_spread_9 : decode cX5_spread 9 = .ok (.aload_n 0, 1) := by decide +kernel
theorem dX5_spread_10 : decode cX5_spread 10 = .ok (.getfield 35, 3) := by decide +kernel
theorem dX5_spread_13 : decode cX5_spread 13 = .ok (.iload_n 2, 1) := by decide +kernel
theorem dX5_spread_14 : decode cX5_spread 14 = .ok (.iconst (-1), 1) := by decide +kernel
theorem dX5_spread_15 : decode cX5_spread 15 = .ok (.iastore, 1) := by decide +kernel
theorem dX5_spread_16 : decode cX5_spread 16 = .ok (.iinc 2 1, 3) := by decide +kernel
theorem dX5_spread_19 : decode cX5_spread 19 = .ok (.goto (-17), 3) := by decide +kernel
theorem dX5_spread_22 : decode cX5_spread 22 = .ok (.aload_n 0, 1) := by decide +kernel
theorem dX5_spread_23 : decode cX5_spread 23 = .ok (.getfield 35, 3) := by decide +kernel
theorem dX5_spread_26 : decode cX5_spread 26 = .ok (.iload_n 1, 1) := by decide +kernel
theorem dX5_spread_27 : decode cX5_spread 27 = .ok (.iconst 0, 1) := by decide +kernel
theorem dX5_spread_28 : decode cX5_spread 28 = .ok (.iastore, 1) := by decide +kernel
theorem dX5_spread_29 : decode cX5_spread 29 = .ok (.aload_n 0, 1) := by decide +kernel
theorem dX5_spread_30 : decode cX5_spread 30 = .ok (.getfield 38, 3) := by decide +kernel
theorem dX5_spread_33 : decode cX5_spread 33 = .ok (.iconst 0, 1) := by decide +kernel
theorem dX5_spread_34 : decode cX5_spread 34 = .ok (.iload_n 1, 1) := by decide +kernel
theorem dX5_spread_35 : decode cX5_spread 35 = .ok (.iastore, 1) := by decide +kernel
theorem dX5_spread_36 : decode cX5_spread 36 = .ok (.iconst 1, 1) := by decide +kernel
theorem dX5_spread_37 : decode cX5_spread 37 = .ok (.istore_n 2, 1) := by decide +kernel
theorem dX5_spread_38 : decode cX5_spread 38 = .ok (.iconst 0, 1) := by decide +kernel
theorem dX5_spread_39 : decode cX5_spread 39 = .ok (.istore_n 3, 1) := by decide +kernel
theorem dX5_spread_40 : decode cX5_spread 40 = .ok (.iload_n 3, 1) := by decide +kernel
theorem dX5_spread_41 : decode cX5_spread 41 = .ok (.iload_n 2, 1) := by decide +kernel
theorem dX5_spread_42 : decode cX5_spread 42 = .ok (.if_icmp .ge 108, 3) := by decide +kernel
theorem dX5_spread_45 : decode cX5_spread 45 = .ok (.getstatic 52, 3) := by decide +kernel
theorem dX5_spread_48 : decode cX5_spread 48 = .ok (.astore 4, 2) := by decide +kernel
theorem dX5_spread_50 : decode cX5_spread 50 = .ok (.aload 4, 2) := by decide +kernel
theorem dX5_spread_52 : decode cX5_spread 52 = .ok (.arraylength, 1) := by decide +kernel
theorem dX5_spread_53 : decode cX5_spread 53 = .ok (.istore 5, 2) := by decide +kernel
theorem dX5_spread_55 : decode cX5_spread 55 = .ok (.iconst 0, 1) := by decide +kernel
theorem dX5_spread_56 : decode cX5_spread 56 = .ok (.istore 6, 2) := by decide +kernel
theorem dX5_spread_58 : decode cX5_spread 58 = .ok (.iload 6, 2) := by decide +kernel
theorem dX5_spread_60 : decode cX5_spread 60 = .ok (.iload 5, 2) := by decide +kernel
theorem dX5_spread_62 : decode cX5_spread 62 = .ok (.if_icmp .ge 82, 3) := by decide +kernel
theorem dX5_spread_65 : decode cX5_spread 65 = .ok (.aload 4, 2) := by decide +kernel
theorem dX5_spread_67 : decode cX5_spread 67 = .ok (.iload 6, 2) := by decide +kernel
theorem dX5_spread_69 : decode cX5_spread 69 = .ok (.iaload, 1) := by decide +kernel
theorem dX5_spread_70 : decode cX5_spread 70 = .ok (.istore 7, 2) := by decide +kernel
theorem dX5_spread_72 : decode cX5_spread 72 = .ok (.aload_n 0, 1) := by decide +kernel
theorem dX5_spread_73 : decode cX5_spread 73 = .ok (.getfield 38, 3) := by decide +kernel
theorem dX5_spread_76 : decode cX5_spread 76 = .ok (.iload_n 3, 1) := by decide +kernel
theorem dX5_spread_77 : decode cX5_spread 77 = .ok (.iaload, 1) := by decide +kernel
theorem dX5_spread_78 : decode cX5_spread 78 = .ok (.iload 7, 2) := by decide +kernel
theorem dX5_spread_80 : decode cX5_spread 80 = .ok (.iadd, 1) := by decide +kernel
theorem dX5_spread_81 : decode cX5_spread 81 = .ok (.istore 8, 2) := by decide +kernel
theorem dX5_spread_83 : decode cX5_spread 83 = .ok (.aload_n 0, 1) := by decide +kernel
theorem dX5_spread_84 : decode cX5_spread 84 = .ok (.getfield 16, 3) := by decide +kernel
theorem dX5_spread_87 : decode cX5_spread 87 = .ok (.iload 8, 2) := by decide +kernel
theorem dX5_spread_89 : decode cX5_spread 89 = .ok (.iaload, 1) := by decide +kernel
theorem dX5_spread_90 : decode cX5_spread 90 = .ok (.ifCond .eq 48, 3) := by decide +kernel
theorem dX5_spread_93 : decode cX5_spread 93 = .ok (.aload_n 0, 1) := by decide +kernel
theorem dX5_spread_94 : decode cX5_spread 94 = .ok (.getfield 35, 3) := by decide +kernel
theorem dX5_spread_97 : decode cX5_spread 97 = .ok (.iload 8, 2) := by decide +kernel
theorem dX5_spread_99 : decode cX5_spread 99 = .ok (.iaload, 1) := by decide +kernel
theorem dX5_spread_100 : decode cX5_spread 100 = .ok (.iconst (-1), 1) := by decide +kernel
theorem dX5_spread_101 : decode cX5_spread 101 = .ok (.if_icmp .eq 6, 3) := by decide +kernel
theorem dX5_spread_104 : decode cX5_spread 104 = .ok (.goto 34, 3) := by decide +kernel
theorem dX5_spread_107 : decode cX5_spread 107 = .ok (.aload_n 0, 1) := by decide +kernel
theorem dX5_spread_108 : decode cX5_spread 108 = .ok (.getfield 35, 3) := by decide +kernel
theorem dX5_spread_111 : decode cX5_spread 111 = .ok (.iload 8, 2) := by decide +kernel
theorem dX5_spread_113 : decode cX5_spread 113 = .ok (.aload_n 0, 1) := by decide +kernel
theorem dX5_spread_114 : decode cX5_spread 114 = .ok (.getfield 35, 3) := by decide +kernel
theorem dX5_spread_117 : decode cX5_spread 117 = .ok (.aload_n 0, 1) := by decide +kernel
theorem dX5_spread_118 : decode cX5_spread 118 = .ok (.getfield 38, 3) := by decide +kernel
theorem dX5_spread_121 : decode cX5_spread 121 = .ok (.iload_n 3, 1) := by decide +kernel
theorem dX5_spread_122 : decode cX5_spread 122 = .ok (.iaload, 1) := by decide +kernel
theorem dX5_spread_123 : decode cX5_spread 123 = .ok (.iaload, 1) := by decide +kernel
theorem dX5_spread_124 : decode cX5_spread 124 = .ok (.iconst 1, 1) := by decide +kernel
theorem dX5_spread_125 : decode cX5_spread 125 = .ok (.iadd, 1) := by decide +kernel
theorem dX5_spread_126 : decode cX5_spread 126 = .ok (.iastore, 1) := by decide +kernel
theorem dX5_spread_127 : decode cX5_spread 127 = .ok (.aload_n 0, 1) := by decide +kernel
theorem dX5_spread_128 : decode cX5_spread 128 = .ok (.getfield 38, 3) := by decide +kernel
theorem dX5_spread_131 : decode cX5_spread 131 = .ok (.iload_n 2, 1) := by decide +kernel
theorem dX5_spread_132 : decode cX5_spread 132 = .ok (.iload 8, 2) := by decide +kernel
theorem dX5_spread_134 : decode cX5_spread 134 = .ok (.iastore, 1) := by decide +kernel
theorem dX5_spread_135 : decode cX5_spread 135 = .ok (.iinc 2 1, 3) := by decide +kernel
theorem dX5_spread_138 : decode cX5_spread 138 = .ok (.iinc 6 1, 3) := by decide +kernel
theorem dX5_spread_141 : decode cX5_spread 141 = .ok (.goto (-83), 3) := by decide +kernel
theorem dX5_spread_144 : decode cX5_spread 144 = .ok (.iinc 3 1, 3) := by decide +kernel
theorem dX5_spread_147 : decode cX5_spread 147 = .ok (.goto (-107), 3) := by decide +kernel
theorem dX5_spread_150 : decode cX5_spread 150 = .ok (.iload_n 2, 1) := by decide +kernel
theorem dX5_spread_151 : decode cX5_spread 151 = .ok (.ireturn, 1) := by decide +kernel
theorem dX5_piece_0 : decode cX5_piece 0 = .ok (.aload_n 0, 1) := by decide +kernel
theorem dX5_piece_1 : decode cX5_piece 1 = .ok (.getfield 16, 3) := by decide +kernel
theorem dX5_piece_4 : decode cX5_piece 4 = .ok (.iload_n 1, 1) := by decide +kernel
theorem dX5_piece_5 : decode cX5_piece 5 = .ok (.iaload, 1) := by decide +kernel
theorem dX5_piece_6 : decode cX5_piece 6 = .ok (.ifCond .ne 7, 3) := by decide +kernel
theorem dX5_piece_9 : decode cX5_piece 9 = .ok (.iconst 0, 1) := by decide +kernel
theorem dX5_piece_10 : decode cX5_piece 10 = .ok (.goto 8, 3) := by decide +kernel
theorem dX5_piece_13 : decode cX5_piece 13 = .ok (.aload_n 0, 1) := by decide +kernel
theorem dX5_piece_14 : decode cX5_piece 14 = .ok (.iload_n 1, 1) := by decide +kernel
theorem dX5_piece_15 : decode cX5_piece 15 = .ok (.invokevirtual 114, 3) := by decide +kernel
theorem dX5_piece_18 : decode cX5_piece 18 = .ok (.ireturn, 1) := by decide +kernel
theorem dX5_cellTold_0 : decode cX5_cellTold 0 = .ok (.iload_n 2, 1) := by decide +kernel
theorem dX5_cellTold_1 : decode cX5_cellTold 1 = .ok (.tableswitch 57 0 3 #[31, 38, 45, 51], 31) := by decide +kernel
theorem dX5_cellTold_32 : decode cX5_cellTold 32 = .ok (.aload_n 0, 1) := by decide +kernel
theorem dX5_cellTold_33 : decode cX5_cellTold 33 = .ok (.getfield 16, 3) := by decide +kernel
theorem dX5_cellTold_36 : decode cX5_cellTold 36 = .ok (.iload_n 1, 1) := by decide +kernel
theorem dX5_cellTold_37 : decode cX5_cellTold 37 = .ok (.iaload, 1) := by decide +kernel
theorem dX5_cellTold_38 : decode cX5_cellTold 38 = .ok (.ireturn, 1) := by decide +kernel
theorem dX5_cellTold_39 : decode cX5_cellTold 39 = .ok (.aload_n 0, 1) := by decide +kernel
theorem dX5_cellTold_40 : decode cX5_cellTold 40 = .ok (.iload_n 1, 1) := by decide +kernel
theorem dX5_cellTold_41 : decode cX5_cellTold 41 = .ok (.iconst 2, 1) := by decide +kernel
theorem dX5_cellTold_42 : decode cX5_cellTold 42 = .ok (.invokevirtual 55, 3) := by decide +kernel
theorem dX5_cellTold_45 : decode cX5_cellTold 45 = .ok (.ireturn, 1) := by decide +kernel
theorem dX5_cellTold_46 : decode cX5_cellTold 46 = .ok (.aload_n 0, 1) := by decide +kernel
theorem dX5_cellTold_47 : decode cX5_cellTold 47 = .ok (.iload_n 1, 1) := by decide +kernel
theorem dX5_cellTold_48 : decode cX5_cellTold 48 = .ok (.invokevirtual 62, 3) := by decide +kernel
theorem dX5_cellTold_51 : decode cX5_cellTold 51 = .ok (.ireturn, 1) := by decide +kernel
theorem dX5_cellTold_52 : decode cX5_cellTold 52 = .ok (.aload_n 0, 1) := by decide +kernel
theorem dX5_cellTold_53 : decode cX5_cellTold 53 = .ok (.iload_n 1, 1) := by decide +kernel
theorem dX5_cellTold_54 : decode cX5_cellTold 54 = .ok (.invokevirtual 117, 3) := by decide +kernel
theorem dX5_cellTold_57 : decode cX5_cellTold 57 = .ok (.ireturn, 1) := by decide +kernel
theorem dX5_cellTold_58 : decode cX5_cellTold 58 = .ok (.bipush 8, 2) := by decide +kernel
theorem dX5_cellTold_60 : decode cX5_cellTold 60 = .ok (.aload_n 0, 1) := by decide +kernel
theorem dX5_cellTold_61 : decode cX5_cellTold 61 = .ok (.iload_n 1, 1) := by decide +kernel
theorem dX5_cellTold_62 : decode cX5_cellTold 62 = .ok (.iconst 0, 1) := by decide +kernel
theorem dX5_cellTold_63 : decode cX5_cellTold 63 = .ok (.invokevirtual 55, 3) := by decide +kernel
theorem dX5_cellTold_66 : decode cX5_cellTold 66 = .ok (.isub, 1) := by decide +kernel
theorem dX5_cellTold_67 : decode cX5_cellTold 67 = .ok (.ireturn, 1) := by decide +kernel
theorem dX5_told_0 : decode cX5_told 0 = .ok (.aload_n 0, 1) := by decide +kernel
theorem dX5_told_1 : decode cX5_told 1 = .ok (.iconst 0, 1) := by decide +kernel
theorem dX5_told_2 : decode cX5_told 2 = .ok (.putfield 41, 3) := by decide +kernel
theorem dX5_told_5 : decode cX5_told 5 = .ok (.aload_n 0, 1) := by decide +kernel
theorem dX5_told_6 : decode cX5_told 6 = .ok (.iload_n 1, 1) := by decide +kernel
theorem dX5_told_7 : decode cX5_told 7 = .ok (.iload_n 2, 1) := by decide +kernel
theorem dX5_told_8 : decode cX5_told 8 = .ok (.invokevirtual 77, 3) := by decide +kernel
theorem dX5_told_11 : decode cX5_told 11 = .ok (.ifCond .eq 25, 3) := by decide +kernel
theorem dX5_told_14 : decode cX5_told 14 = .ok (.iload_n 3, 1) := by decide +kernel
theorem dX5_told_15 : decode cX5_told 15 = .ok (.iconst 0, 1) := by decide +kernel
theorem dX5_told_16 : decode cX5_told 16 = .ok (.iconst 4, 1) := by decide +kernel
theorem dX5_told_17 : decode cX5_told 17 = .ok (.invokestatic 44, 3) := by decide +kernel
theorem dX5_told_20 : decode cX5_told 20 = .ok (.ifCond .eq 16, 3) := by decide +kernel
theorem dX5_told_23 : decode cX5_told 23 = .ok (.aload_n 0, 1) := by decide +kernel
theorem dX5_told_24 : decode cX5_told 24 = .ok (.iload_n 1, 1) := by decide +kernel
theorem dX5_told_25 : decode cX5_told 25 = .ok (.iload_n 2, 1) := by decide +kernel
theorem dX5_told_26 : decode cX5_told 26 = .ok (.invokestatic 48, 3) := by decide +kernel
theorem dX5_told_29 : decode cX5_told 29 = .ok (.iload_n 3, 1) := by decide +kernel
theorem dX5_told_30 : decode cX5_told 30 = .ok (.invokevirtual 120, 3) := by decide +kernel
theorem dX5_told_33 : decode cX5_told 33 = .ok (.goto 8, 3) := by decide +kernel
theorem dX5_told_36 : decode cX5_told 36 = .ok (.aload_n 0, 1) := by decide +kernel
theorem dX5_told_37 : decode cX5_told 37 = .ok (.iconst 1, 1) := by decide +kernel
theorem dX5_told_38 : decode cX5_told 38 = .ok (.invokevirtual 74, 3) := by decide +kernel
theorem dX5_told_41 : decode cX5_told 41 = .ok (.ireturn, 1) := by decide +kernel
theorem dX5_lampTold_0 : decode cX5_lampTold 0 = .ok (.aload_n 0, 1) := by decide +kernel
theorem dX5_lampTold_1 : decode cX5_lampTold 1 = .ok (.getfield 26, 3) := by decide +kernel
theorem dX5_lampTold_4 : decode cX5_lampTold 4 = .ok (.iconst 4, 1) := by decide +kernel
theorem dX5_lampTold_5 : decode cX5_lampTold 5 = .ok (.iload_n 1, 1) := by decide +kernel
theorem dX5_lampTold_6 : decode cX5_lampTold 6 = .ok (.imul, 1) := by decide +kernel
theorem dX5_lampTold_7 : decode cX5_lampTold 7 = .ok (.iaload, 1) := by decide +kernel
theorem dX5_lampTold_8 : decode cX5_lampTold 8 = .ok (.istore_n 3, 1) := by decide +kernel
theorem dX5_lampTold_9 : decode cX5_lampTold 9 = .ok (.iload_n 2, 1) := by decide +kernel
theorem dX5_lampTold_10 : decode cX5_lampTold 10 = .ok (.ifCond .ne 12, 3) := by decide +kernel
theorem dX5_lampTold_13 : decode cX5_lampTold 13 = .ok (.iload_n 3, 1) := by decide +kernel
theorem dX5_lampTold_14 : decode cX5_lampTold 14 = .ok (.bipush 12, 2) := by decide +kernel
theorem dX5_lampTold_16 : decode cX5_lampTold 16 = .ok (.irem, 1) := by decide +kernel
theorem dX5_lampTold_17 : decode cX5_lampTold 17 = .ok (.iconst 1, 1) := by decide +kernel
theorem dX5_lampTold_18 : decode cX5_lampTold 18 = .ok (.isub, 1) := by decide +kernel
theorem dX5_lampTold_19 : decode cX5_lampTold 19 = .ok (.goto 29, 3) := by decide +kernel
theorem dX5_lampTold_22 : decode cX5_lampTold 22 = .ok (.iload_n 2, 1) := by decide +kernel
theorem dX5_lampTold_23 : decode cX5_lampTold 23 = .ok (.iconst 1, 1) := by decide +kernel
theorem dX5_lampTold_24 : decode cX5_lampTold 24 = .ok (.if_icmp .ne 12, 3) := by decide +kernel
theorem dX5_lampTold_27 : decode cX5_lampTold 27 = .ok (.iload_n 3, 1) := by decide +kernel
theorem dX5_lampTold_28 : decode cX5_lampTold 28 = .ok (.bipush 12, 2) := by decide +kernel
theorem dX5_lampTold_30 : decode cX5_lampTold 30 = .ok (.idiv, 1) := by decide +kernel
theorem dX5_lampTold_31 : decode cX5_lampTold 31 = .ok (.iconst 1, 1) := by decide +kernel
theorem dX5_lampTold_32 : decode cX5_lampTold 32 = .ok (.isub, 1) := by decide +kernel
theorem dX5_lampTold_33 : decode cX5_lampTold 33 = .ok (.goto 15, 3) := by decide +kernel
theorem dX5_lampTold_36 : decode cX5_lampTold 36 = .ok (.aload_n 0, 1) := by decide +kernel
theorem dX5_lampTold_37 : decode cX5_lampTold 37 = .ok (.getfield 26, 3) := by decide +kernel
theorem dX5_lampTold_40 : decode cX5_lampTold 40 = .ok (.iconst 4, 1) := by decide +kernel
theorem dX5_lampTold_41 : decode cX5_lampTold 41 = .ok (.iload_n 1, 1) := by decide +kernel
theorem dX5_lampTold_42 : decode cX5_lampTold 42 = .ok (.imul, 1) := by decide +kernel
theorem dX5_lampTold_43 : decode cX5_lampTold 43 = .ok (.iload_n 2, 1) := by decide +kernel
theorem dX5_lampTold_44 : decode cX5_lampTold 44 = .ok (.iadd, 1) := by decide +kernel
theorem dX5_lampTold_45 : decode cX5_lampTold 45 = .ok (.iconst 1, 1) := by decide +kernel
theorem dX5_lampTold_46 : decode cX5_lampTold 46 = .ok (.isub, 1) := by decide +kernel
theorem dX5_lampTold_47 : decode cX5_lampTold 47 = .ok (.iaload, 1) := by decide +kernel
theorem dX5_lampTold_48 : decode cX5_lampTold 48 = .ok (.ireturn, 1) := by decide +kernel
theorem dX5_about_0 : decode cX5_about 0 = .ok (.aload_n 0, 1) := by decide +kernel
theorem dX5_about_1 : decode cX5_about 1 = .ok (.iconst 0, 1) := by decide +kernel
theorem dX5_about_2 : decode cX5_about 2 = .ok (.putfield 41, 3) := by decide +kernel
theorem dX5_about_5 : decode cX5_about 5 = .ok (.iload_n 1, 1) := by decide +kernel
theorem dX5_about_6 : decode cX5_about 6 = .ok (.iconst 0, 1) := by decide +kernel
theorem dX5_about_7 : decode cX5_about 7 = .ok (.aload_n 0, 1) := by decide +kernel
theorem dX5_about_8 : decode cX5_about 8 = .ok (.getfield 65, 3) := by decide +kernel
theorem dX5_about_11 : decode cX5_about 11 = .ok (.iconst 1, 1) := by decide +kernel
theorem dX5_about_12 : decode cX5_about 12 = .ok (.isub, 1) := by decide +kernel
theorem dX5_about_13 : decode cX5_about 13 = .ok (.invokestatic 44, 3) := by decide +kernel
theorem dX5_about_16 : decode cX5_about 16 = .ok (.ifCond .eq 21, 3) := by decide +kernel
theorem dX5_about_19 : decode cX5_about 19 = .ok (.iload_n 2, 1) := by decide +kernel
theorem dX5_about_20 : decode cX5_about 20 = .ok (.iconst 0, 1) := by decide +kernel
theorem dX5_about_21 : decode cX5_about 21 = .ok (.iconst 3, 1) := by decide +kernel
theorem dX5_about_22 : decode cX5_about 22 = .ok (.invokestatic 44, 3) := by decide +kernel
theorem dX5_about_25 : decode cX5_about 25 = .ok (.ifCond .eq 12, 3) := by decide +kernel
theorem dX5_about_28 : decode cX5_about 28 = .ok (.aload_n 0, 1) := by decide +kernel
theorem dX5_about_29 : decode cX5_about 29 = .ok (.iload_n 1, 1) := by decide +kernel
theorem dX5_about_30 : decode cX5_about 30 = .ok (.iload_n 2, 1) := by decide +kernel
theorem dX5_about_31 : decode cX5_about 31 = .ok (.invokevirtual 123, 3) := by decide +kernel
theorem dX5_about_34 : decode cX5_about 34 = .ok (.goto 8, 3) := by decide +kernel
theorem dX5_about_37 : decode cX5_about 37 = .ok (.aload_n 0, 1) := by decide +kernel
theorem dX5_about_38 : decode cX5_about 38 = .ok (.iconst 1, 1) := by decide +kernel
theorem dX5_about_39 : decode cX5_about 39 = .ok (.invokevirtual 74, 3) := by decide +kernel
theorem dX5_about_42 : decode cX5_about 42 = .ok (.ireturn, 1) := by decide +kernel
theorem dX5_pieces_0 : decode cX5_pieces 0 = .ok (.iconst 0, 1) := by decide +kernel
theorem dX5_pieces_1 : decode cX5_pieces 1 = .ok (.istore_n 2, 1) := by decide +kernel
theorem dX5_pieces_2 : decode cX5_pieces 2 = .ok (.iconst 0, 1) := by decide +kernel
theorem dX5_pieces_3 : decode cX5_pieces 3 = .ok (.istore_n 3, 1) := by decide +kernel
theorem dX5_pieces_4 : decode cX5_pieces 4 = .ok (.iconst 0, 1) := by decide +kernel
theorem dX5_pieces_5 : decode cX5_pieces 5 = .ok (.istore 4, 2) := by decide +kernel
theorem dX5_pieces_7 : decode cX5_pieces 7 = .ok (.iload 4, 2) := by decide +kernel
theorem dX5_pieces_9 : decode cX5_pieces 9 = .ok (.aload_n 0, 1) := by decide +kernel
theorem dX5_pieces_10 : decode cX5_pieces 10 = .ok (.getfield 7, 3) := by decide +kernel
theorem dX5_pieces_13 : decode cX5_pieces 13 = .ok (.aload_n 0, 1) := by decide +kernel
theorem dX5_pieces_14 : decode cX5_pieces 14 = .ok (.getfield 13, 3) := by decide +kernel
theorem dX5_pieces_17 : decode cX5_pieces 17 = .ok (.imul, 1) := by decide +kernel
theorem dX5_pieces_18 : decode cX5_pieces 18 = .ok (.if_icmp .ge 104, 3) := by decide +kernel
theorem dX5_pieces_21 : decode cX5_pieces 21 = .ok (.aload_n 0, 1) := by decide +kernel
theorem dX5_pieces_22 : decode cX5_pieces 22 = .ok (.getfield 16, 3) := by decide +kernel
theorem dX5_pieces_25 : decode cX5_pieces 25 = .ok (.aload_n 0, 1) := by decide +kernel
theorem dX5_pieces_26 : decode cX5_pieces 26 = .ok (.iload 4, 2) := by decide +kernel
theorem dX5_pieces_28 : decode cX5_pieces 28 = .ok (.invokevirtual 58, 3) := by decide +kernel
theorem dX5_pieces_31 : decode cX5_pieces 31 = .ok (.iaload, 1) := by decide +kernel
theorem dX5_pieces_32 : decode cX5_pieces 32 = .ok (.ifCond .ne 6, 3) := by decide +kernel
theorem dX5_pieces_35 : decode cX5_pieces 35 = .ok (.goto 81, 3) := by decide +kernel
theorem dX5_pieces_38 : decode cX5_pieces 38 = .ok (.aload_n 0, 1) := by decide +kernel
theorem dX5_pieces_39 : decode cX5_pieces 39 = .ok (.aload_n 0, 1) := by decide +kernel
theorem dX5_pieces_40 : decode cX5_pieces 40 = .ok (.iload 4, 2) := by decide +kernel
theorem dX5_pieces_42 : decode cX5_pieces 42 = .ok (.invokevirtual 58, 3) := by decide +kernel
theorem dX5_pieces_45 : decode cX5_pieces 45 = .ok (.invokevirtual 114, 3) := by decide +kernel
theorem dX5_pieces_48 : decode cX5_pieces 48 = .ok (.istore 5, 2) := by decide +kernel
theorem dX5_pieces_50 : decode cX5_pieces 50 = .ok (.iload_n 3, 1) := by decide +kernel
theorem dX5_pieces_51 : decode cX5_pieces 51 = .ok (.iload 5, 2) := by decide +kernel
theorem dX5_pieces_53 : decode cX5_pieces 53 = .ok (.invokestatic 126, 3) := by decide +kernel
theorem dX5_pieces_56 : decode cX5_pieces 56 = .ok (.istore_n 3, 1) := by decide +kernel
theorem dX5_pieces_57 : decode cX5_pieces 57 = .ok (.iconst 1, 1) := by decide +kernel
theorem dX5_pieces_58 : decode cX5_pieces 58 = .ok (.istore 6, 2) := by decide +kernel
theorem dX5_pieces_60 : decode cX5_pieces 60 = .ok (.iconst 0, 1) := by decide +kernel
theorem dX5_pieces_61 : decode cX5_pieces 61 = .ok (.istore 7, 2) := by decide +kernel
theorem dX5_pieces_63 : decode cX5_pieces 63 = .ok (.iload 7, 2) := by decide +kernel
theorem dX5_pieces_65 : decode cX5_pieces 65 = .ok (.iload 4, 2) := by decide +kernel
theorem dX5_pieces_67 : decode cX5_pieces 67 = .ok (.if_icmp .ge 36, 3) := by decide +kernel
theorem dX5_pieces_70 : decode cX5_pieces 70 = .ok (.iload 6, 2) := by decide +kernel
theorem dX5_pieces_72 : decode cX5_pieces 72 = .ok (.ifCond .eq 22, 3) := by decide +kernel
theorem dX5_pieces_75 : decode cX5_pieces 75 = .ok (.aload_n 0, 1) := by decide +kernel
theorem dX5_pieces_76 : decode cX5_pieces 76 = .ok (.getfield 35, 3) := by decide +kernel
theorem dX5_pieces_79 : decode cX5_pieces 79 = .ok (.aload_n 0, 1) := by decide +kernel
theorem dX5_pieces_80 : decode cX5_pieces 80 = .ok (.iload 7, 2) := by decide +kernel
theorem dX5_pieces_82 : decode cX5_pieces 82 = .ok (.invokevirtual 58, 3) := by decide +kernel
theorem dX5_pieces_85 : decode cX5_pieces 85 = .ok (.iaload, 1) := by decide +kernel
theorem dX5_pieces_86 : decode cX5_pieces 86 = .ok (.iconst (-1), 1) := by decide +kernel
theorem dX5_pieces_87 : decode cX5_pieces 87 = .ok (.if_icmp .ne 7, 3) := by decide +kernel
theorem dX5_pieces_90 : decode cX5_pieces 90 = .ok (.iconst 1, 1) := by decide +kernel
theorem dX5_pieces_91 : decode cX5_pieces 91 = .ok (.goto 4, 3) := by decide +kernel
theorem dX5_pieces_94 : decode cX5_pieces 94 = .ok (.iconst 0, 1) := by decide +kernel
theorem dX5_pieces_95 : decode cX5_pieces 95 = .ok (.istore 6, 2) := by decide +kernel
theorem dX5_pieces_97 : decode cX5_pieces 97 = .ok (.iinc 7 1, 3) := by decide +kernel
theorem dX5_pieces_100 : decode cX5_pieces 100 = .ok (.goto (-37), 3) := by decide +kernel
theorem dX5_pieces_103 : decode cX5_pieces 103 = .ok (.iload_n 2, 1) := by decide +kernel
theorem dX5_pieces_104 : decode cX5_pieces 104 = .ok (.iload 6, 2) := by decide +kernel
theorem dX5_pieces_106 : decode cX5_pieces 106 = .ok (.ifCond .eq 7, 3) := by decide +kernel
theorem dX5_pieces_109 : decode cX5_pieces 109 = .ok (.iconst 1, 1) := by decide +kernel
theorem dX5_pieces_110 : decode cX5_pieces 110 = .ok (.goto 4, 3) := by decide +kernel
theorem dX5_pieces_113 : decode cX5_pieces 113 = .ok (.iconst 0, 1) := by decide +kernel
theorem dX5_pieces_114 : decode cX5_pieces 114 = .ok (.iadd, 1) := by decide +kernel
theorem dX5_pieces_115 : decode cX5_pieces 115 = .ok (.istore_n 2, 1) := by decide +kernel
theorem dX5_pieces_116 : decode cX5_pieces 116 = .ok (.iinc 4 1, 3) := by decide +kernel
theorem dX5_pieces_119 : decode cX5_pieces 119 = .ok (.goto (-112), 3) := by decide +kernel
theorem dX5_pieces_122 : decode cX5_pieces 122 = .ok (.iload_n 1, 1) := by decide +kernel
theorem dX5_pieces_123 : decode cX5_pieces 123 = .ok (.ifCond .eq 7, 3) := by decide +kernel
theorem dX5_pieces_126 : decode cX5_pieces 126 = .ok (.iload_n 3, 1) := by decide +kernel
theorem dX5_pieces_127 : decode cX5_pieces 127 = .ok (.goto 4, 3) := by decide +kernel
theorem dX5_pieces_130 : decode cX5_pieces 130 = .ok (.iload_n 2, 1) := by decide +kernel
theorem dX5_pieces_131 : decode cX5_pieces 131 = .ok (.ireturn, 1) := by decide +kernel
theorem dX5_lit_0 : decode cX5_lit 0 = .ok (.iconst 0, 1) := by decide +kernel
theorem dX5_lit_1 : decode cX5_lit 1 = .ok (.istore_n 1, 1) := by decide +kernel
theorem dX5_lit_2 : decode cX5_lit 2 = .ok (.iconst 0, 1) := by decide +kernel
theorem dX5_lit_3 : decode cX5_lit 3 = .ok (.istore_n 2, 1) := by decide +kernel
theorem dX5_lit_4 : decode cX5_lit 4 = .ok (.iload_n 2, 1) := by decide +kernel
theorem dX5_lit_5 : decode cX5_lit 5 = .ok (.aload_n 0, 1) := by decide +kernel
theorem dX5_lit_6 : decode cX5_lit 6 = .ok (.getfield 65, 3) := by decide +kernel
theorem dX5_lit_9 : decode cX5_lit 9 = .ok (.if_icmp .ge 22, 3) := by decide +kernel
theorem dX5_lit_12 : decode cX5_lit 12 = .ok (.iload_n 1, 1) := by decide +kernel
theorem dX5_lit_13 : decode cX5_lit 13 = .ok (.aload_n 0, 1) := by decide +kernel
theorem dX5_lit_14 : decode cX5_lit 14 = .ok (.getfield 26, 3) := by decide +kernel
theorem dX5_lit_17 : decode cX5_lit 17 = .ok (.iconst 4, 1) := by decide +kernel
theorem dX5_lit_18 : decode cX5_lit 18 = .ok (.iload_n 2, 1) := by decide +kernel
theorem dX5_lit_19 : decode cX5_lit 19 = .ok (.imul, 1) := by decide +kernel
theorem dX5_lit_20 : decode cX5_lit 20 = .ok (.iconst 1, 1) := by decide +kernel
theorem dX5_lit_21 : decode cX5_lit 21 = .ok (.iadd, 1) := by decide +kernel
theorem dX5_lit_22 : decode cX5_lit 22 = .ok (.iaload, 1) := by decide +kernel
theorem dX5_lit_23 : decode cX5_lit 23 = .ok (.iadd, 1) := by decide +kernel
theorem dX5_lit_24 : decode cX5_lit 24 = .ok (.istore_n 1, 1) := by decide +kernel
theorem dX5_lit_25 : decode cX5_lit 25 = .ok (.iinc 2 1, 3) := by decide +kernel
theorem dX5_lit_28 : decode cX5_lit 28 = .ok (.goto (-24), 3) := by decide +kernel
theorem dX5_lit_31 : decode cX5_lit 31 = .ok (.iload_n 1, 1) := by decide +kernel
theorem dX5_lit_32 : decode cX5_lit 32 = .ok (.ireturn, 1) := by decide +kernel
theorem dX5_counted_0 : decode cX5_counted 0 = .ok (.iload_n 1, 1) := by decide +kernel
theorem dX5_counted_1 : decode cX5_counted 1 = .ok (.tableswitch 101 0 8 #[51, 56, 61, 66, 72, 78, 84, 90, 96], 51) := by decide +kernel
theorem dX5_counted_52 : decode cX5_counted 52 = .ok (.aload_n 0, 1) := by decide +kernel
theorem dX5_counted_53 : decode cX5_counted 53 = .ok (.getfield 104, 3) := by decide +kernel
theorem dX5_counted_56 : decode cX5_counted 56 = .ok (.ireturn, 1) := by decide +kernel
theorem dX5_counted_57 : decode cX5_counted 57 = .ok (.aload_n 0, 1) := by decide +kernel
theorem dX5_counted_58 : decode cX5_counted 58 = .ok (.getfield 7, 3) := by decide +kernel
theorem dX5_counted_61 : decode cX5_counted 61 = .ok (.ireturn, 1) := by decide +kernel
theorem dX5_counted_62 : decode cX5_counted 62 = .ok (.aload_n 0, 1) := by decide +kernel
theorem dX5_counted_63 : decode cX5_counted 63 = .ok (.getfield 13, 3) := by decide +kernel
theorem dX5_counted_66 : decode cX5_counted 66 = .ok (.ireturn, 1) := by decide +kernel
theorem dX5_counted_67 : decode cX5_counted 67 = .ok (.aload_n 0, 1) := by decide +kernel
theorem dX5_counted_68 : decode cX5_counted 68 = .ok (.iconst 1, 1) := by decide +kernel
theorem dX5_counted_69 : decode cX5_counted 69 = .ok (.invokevirtual 98, 3) := by decide +kernel
theorem dX5_counted_72 : decode cX5_counted 72 = .ok (.ireturn, 1) := by decide +kernel
theorem dX5_counted_73 : decode cX5_counted 73 = .ok (.aload_n 0, 1) := by decide +kernel
theorem dX5_counted_74 : decode cX5_counted 74 = .ok (.iconst 2, 1) := by decide +kernel
theorem dX5_counted_75 : decode cX5_counted 75 = .ok (.invokevirtual 98, 3) := by decide +kernel
theorem dX5_counted_78 : decode cX5_counted 78 = .ok (.ireturn, 1) := by decide +kernel
theorem dX5_counted_79 : decode cX5_counted 79 = .ok (.aload_n 0, 1) := by decide +kernel
theorem dX5_counted_80 : decode cX5_counted 80 = .ok (.iconst 3, 1) := by decide +kernel
theorem dX5_counted_81 : decode cX5_counted 81 = .ok (.invokevirtual 98, 3) := by decide +kernel
theorem dX5_counted_84 : decode cX5_counted 84 = .ok (.ireturn, 1) := by decide +kernel
theorem dX5_counted_85 : decode cX5_counted 85 = .ok (.aload_n 0, 1) := by decide +kernel
theorem dX5_counted_86 : decode cX5_counted 86 = .ok (.iconst 0, 1) := by decide +kernel
theorem dX5_counted_87 : decode cX5_counted 87 = .ok (.invokevirtual 129, 3) := by decide +kernel
theorem dX5_counted_90 : decode cX5_counted 90 = .ok (.ireturn, 1) := by decide +kernel
theorem dX5_counted_91 : decode cX5_counted 91 = .ok (.aload_n 0, 1) := by decide +kernel
theorem dX5_counted_92 : decode cX5_counted 92 = .ok (.iconst 1, 1) := by decide +kernel
theorem dX5_counted_93 : decode cX5_counted 93 = .ok (.invokevirtual 129, 3) := by decide +kernel
theorem dX5_counted_96 : decode cX5_counted 96 = .ok (.ireturn, 1) := by decide +kernel
theorem dX5_counted_97 : decode cX5_counted 97 = .ok (.aload_n 0, 1) := by decide +kernel
theorem dX5_counted_98 : decode cX5_counted 98 = .ok (.getfield 65, 3) := by decide +kernel
theorem dX5_counted_101 : decode cX5_counted 101 = .ok (.ireturn, 1) := by decide +kernel
theorem dX5_counted_102 : decode cX5_counted 102 = .ok (.aload_n 0, 1) := by decide +kernel
theorem dX5_counted_103 : decode cX5_counted 103 = .ok (.invokevirtual 133, 3) := by decide +kernel
theorem dX5_counted_106 : decode cX5_counted 106 = .ok (.ireturn, 1) := by decide +kernel
theorem dX5_count_0 : decode cX5_count 0 = .ok (.aload_n 0, 1) := by decide +kernel
theorem dX5_count_1 : decode cX5_count 1 = .ok (.iconst 0, 1) := by decide +kernel
theorem dX5_count_2 : decode cX5_count 2 = .ok (.putfield 41, 3) := by decide +kernel
theorem dX5_count_5 : decode cX5_count 5 = .ok (.iload_n 1, 1) := by decide +kernel
theorem dX5_count_6 : decode cX5_count 6 = .ok (.iconst 0, 1) := by decide +kernel
theorem dX5_count_7 : decode cX5_count 7 = .ok (.bipush 9, 2) := by decide +kernel
theorem dX5_count_9 : decode cX5_count 9 = .ok (.invokestatic 44, 3) := by decide +kernel
theorem dX5_count_12 : decode cX5_count 12 = .ok (.ifCond .eq 11, 3) := by decide +kernel
theorem dX5_count_15 : decode cX5_count 15 = .ok (.aload_n 0, 1) := by decide +kernel
theorem dX5_count_16 : decode cX5_count 16 = .ok (.iload_n 1, 1) := by decide +kernel
theorem dX5_count_17 : decode cX5_count 17 = .ok (.invokevirtual 137, 3) := by decide +kernel
theorem dX5_count_20 : decode cX5_count 20 = .ok (.goto 8, 3) := by decide +kernel
theorem dX5_count_23 : decode cX5_count 23 = .ok (.aload_n 0, 1) := by decide +kernel
theorem dX5_count_24 : decode cX5_count 24 = .ok (.iconst 1, 1) := by decide +kernel
theorem dX5_count_25 : decode cX5_count 25 = .ok (.invokevirtual 74, 3) := by decide +kernel
theorem dX5_count_28 : decode cX5_count 28 = .ok (.ireturn, 1) := by decide +kernel
theorem dX5_way_0 : decode cX5_way 0 = .ok (.aload_n 0, 1) := by decide +kernel
theorem dX5_way_1 : decode cX5_way 1 = .ok (.iconst 0, 1) := by decide +kernel
theorem dX5_way_2 : decode cX5_way 2 = .ok (.putfield 41, 3) := by decide +kernel
theorem dX5_way_5 : decode cX5_way 5 = .ok (.aload_n 0, 1) := by decide +kernel
theorem dX5_way_6 : decode cX5_way 6 = .ok (.iload_n 1, 1) := by decide +kernel
theorem dX5_way_7 : decode cX5_way 7 = .ok (.iload_n 2, 1) := by decide +kernel
theorem dX5_way_8 : decode cX5_way 8 = .ok (.invokevirtual 77, 3) := by decide +kernel
theorem dX5_way_11 : decode cX5_way 11 = .ok (.ifCond .eq 13, 3) := by decide +kernel
theorem dX5_way_14 : decode cX5_way 14 = .ok (.aload_n 0, 1) := by decide +kernel
theorem dX5_way_15 : decode cX5_way 15 = .ok (.iload_n 3, 1) := by decide +kernel
theorem dX5_way_16 : decode cX5_way 16 = .ok (.iload 4, 2) := by decide +kernel
theorem dX5_way_18 : decode cX5_way 18 = .ok (.invokevirtual 77, 3) := by decide +kernel
theorem dX5_way_21 : decode cX5_way 21 = .ok (.ifCond .ne 9, 3) := by decide +kernel
theorem dX5_way_24 : decode cX5_way 24 = .ok (.aload_n 0, 1) := by decide +kernel
theorem dX5_way_25 : decode cX5_way 25 = .ok (.iconst 1, 1) := by decide +kernel
theorem dX5_way_26 : decode cX5_way 26 = .ok (.invokevirtual 74, 3) := by decide +kernel
theorem dX5_way_29 : decode cX5_way 29 = .ok (.ireturn, 1) := by decide +kernel
theorem dX5_way_30 : decode cX5_way 30 = .ok (.aload_n 0, 1) := by decide +kernel
theorem dX5_way_31 : decode cX5_way 31 = .ok (.getfield 16, 3) := by decide +kernel
theorem dX5_way_34 : decode cX5_way 34 = .ok (.iload_n 1, 1) := by decide +kernel
theorem dX5_way_35 : decode cX5_way 35 = .ok (.iload_n 2, 1) := by decide +kernel
theorem dX5_way_36 : decode cX5_way 36 = .ok (.invokestatic 48, 3) := by decide +kernel
theorem dX5_way_39 : decode cX5_way 39 = .ok (.iaload, 1) := by decide +kernel
theorem dX5_way_40 : decode cX5_way 40 = .ok (.ifCond .eq 17, 3) := by decide +kernel
theorem dX5_way_43 : decode cX5_way 43 = .ok (.aload_n 0, 1) := by decide +kernel
theorem dX5_way_44 : decode cX5_way 44 = .ok (.getfield 16, 3) := by decide +kernel
theorem dX5_way_47 : decode cX5_way 47 = .ok (.iload_n 3, 1) := by decide +kernel
theorem dX5_way_48 : decode cX5_way 48 = .ok (.iload 4, 2) := by decide +kernel
theorem dX5_way_50 : decode cX5_way 50 = .ok (.invokestatic 48, 3) := by decide +kernel
theorem dX5_way_53 : decode cX5_way 53 = .ok (.iaload, 1) := by decide +kernel
theorem dX5_way_54 : decode cX5_way 54 = .ok (.ifCond .ne 5, 3) := by decide +kernel
theorem dX5_way_57 : decode cX5_way 57 = .ok (.iconst (-1), 1) := by decide +kernel
theorem dX5_way_58 : decode cX5_way 58 = .ok (.ireturn, 1) := by decide +kernel
theorem dX5_way_59 : decode cX5_way 59 = .ok (.aload_n 0, 1) := by decide +kernel
theorem dX5_way_60 : decode cX5_way 60 = .ok (.iload_n 1, 1) := by decide +kernel
theorem dX5_way_61 : decode cX5_way 61 = .ok (.iload_n 2, 1) := by decide +kernel
theorem dX5_way_62 : decode cX5_way 62 = .ok (.invokestatic 48, 3) := by decide +kernel
theorem dX5_way_65 : decode cX5_way 65 = .ok (.invokevirtual 114, 3) := by decide +kernel
theorem dX5_way_68 : decode cX5_way 68 = .ok (.pop, 1) := by decide +kernel
theorem dX5_way_69 : decode cX5_way 69 = .ok (.aload_n 0, 1) := by decide +kernel
theorem dX5_way_70 : decode cX5_way 70 = .ok (.getfield 35, 3) := by decide +kernel
theorem dX5_way_73 : decode cX5_way 73 = .ok (.iload_n 3, 1) := by decide +kernel
theorem dX5_way_74 : decode cX5_way 74 = .ok (.iload 4, 2) := by decide +kernel
theorem dX5_way_76 : decode cX5_way 76 = .ok (.invokestatic 48, 3) := by decide +kernel
theorem dX5_way_79 : decode cX5_way 79 = .ok (.iaload, 1) := by decide +kernel
theorem dX5_way_80 : decode cX5_way 80 = .ok (.ireturn, 1) := by decide +kernel
theorem dX5_isAsIt_0 : decode cX5_isAsIt 0 = .ok (.iconst 0, 1) := by decide +kernel
theorem dX5_isAsIt_1 : decode cX5_isAsIt 1 = .ok (.istore_n 2, 1) := by decide +kernel
theorem dX5_isAsIt_2 : decode cX5_isAsIt 2 = .ok (.iload_n 2, 1) := by decide +kernel
theorem dX5_isAsIt_3 : decode cX5_isAsIt 3 = .ok (.sipush 144, 3) := by decide +kernel
theorem dX5_isAsIt_6 : decode cX5_isAsIt 6 = .ok (.if_icmp .ge 32, 3) := by decide +kernel
theorem dX5_isAsIt_9 : decode cX5_isAsIt 9 = .ok (.aload_n 0, 1) := by decide +kernel
theorem dX5_isAsIt_10 : decode cX5_isAsIt 10 = .ok (.getfield 32, 3) := by decide +kernel
theorem dX5_isAsIt_13 : decode cX5_isAsIt 13 = .ok (.sipush 144, 3) := by decide +kernel
theorem dX5_isAsIt_16 : decode cX5_isAsIt 16 = .ok (.iload_n 1, 1) := by decide +kernel
theorem dX5_isAsIt_17 : decode cX5_isAsIt 17 = .ok (.imul, 1) := by decide +kernel
theorem dX5_isAsIt_18 : decode cX5_isAsIt 18 = .ok (.iload_n 2, 1) := by decide +kernel
theorem dX5_isAsIt_19 : decode cX5_isAsIt 19 = .ok (.iadd, 1) := by decide +kernel
theorem dX5_isAsIt_20 : decode cX5_isAsIt 20 = .ok (.iaload, 1) := by decide +kernel
theorem dX5_isAsIt_21 : decode cX5_isAsIt 21 = .ok (.aload_n 0, 1) := by decide +kernel
theorem dX5_isAsIt_22 : decode cX5_isAsIt 22 = .ok (.getfield 16, 3) := by decide +kernel
theorem dX5_isAsIt_25 : decode cX5_isAsIt 25 = .ok (.iload_n 2, 1) := by decide +kernel
theorem dX5_isAsIt_26 : decode cX5_isAsIt 26 = .ok (.iaload, 1) := by decide +kernel
theorem dX5_isAsIt_27 : decode cX5_isAsIt 27 = .ok (.if_icmp .eq 5, 3) := by decide +kernel
theorem dX5_isAsIt_30 : decode cX5_isAsIt 30 = .ok (.iconst 0, 1) := by decide +kernel
theorem dX5_isAsIt_31 : decode cX5_isAsIt 31 = .ok (.ireturn, 1) := by decide +kernel
theorem dX5_isAsIt_32 : decode cX5_isAsIt 32 = .ok (.iinc 2 1, 3) := by decide +kernel
theorem dX5_isAsIt_35 : decode cX5_isAsIt 35 = .ok (.goto (-33), 3) := by decide +kernel
theorem dX5_isAsIt_38 : decode cX5_isAsIt 38 = .ok (.iconst 1, 1) := by decide +kernel
theorem dX5_isAsIt_39 : decode cX5_isAsIt 39 = .ok (.ireturn, 1) := by decide +kernel
theorem dX5_period_0 : decode cX5_period 0 = .ok (.aload_n 0, 1) := by decide +kernel
theorem dX5_period_1 : decode cX5_period 1 = .ok (.iconst 0, 1) := by decide +kernel
theorem dX5_period_2 : decode cX5_period 2 = .ok (.putfield 41, 3) := by decide +kernel
theorem dX5_period_5 : decode cX5_period 5 = .ok (.iload_n 1, 1) := by decide +kernel
theorem dX5_period_6 : decode cX5_period 6 = .ok (.iconst 0, 1) := by decide +kernel
theorem dX5_period_7 : decode cX5_period 7 = .ok (.iconst 1, 1) := by decide +kernel
theorem dX5_period_8 : decode cX5_period 8 = .ok (.invokestatic 44, 3) := by decide +kernel
theorem dX5_period_11 : decode cX5_period 11 = .ok (.ifCond .ne 9, 3) := by decide +kernel
theorem dX5_period_14 : decode cX5_period 14 = .ok (.aload_n 0, 1) := by decide +kernel
theorem dX5_period_15 : decode cX5_period 15 = .ok (.iconst 1, 1) := by decide +kernel
theorem dX5_period_16 : decode cX5_period 16 = .ok (.invokevirtual 74, 3) := by decide +kernel
theorem dX5_period_19 : decode cX5_period 19 = .ok (.ireturn, 1) := by decide +kernel
theorem dX5_period_20 : decode cX5_period 20 = .ok (.aload_n 0, 1) := by decide +kernel
theorem dX5_period_21 : decode cX5_period 21 = .ok (.invokevirtual 140, 3) := by decide +kernel
theorem dX5_period_24 : decode cX5_period 24 = .ok (.iconst (-1), 1) := by decide +kernel
theorem dX5_period_25 : decode cX5_period 25 = .ok (.istore_n 2, 1) := by decide +kernel
theorem dX5_period_26 : decode cX5_period 26 = .ok (.iconst 0, 1) := by decide +kernel
theorem dX5_period_27 : decode cX5_period 27 = .ok (.istore_n 3, 1) := by decide +kernel
theorem dX5_period_28 : decode cX5_period 28 = .ok (.iload_n 3, 1) := by decide +kernel
theorem dX5_period_29 : decode cX5_period 29 = .ok (.bipush 90, 2) := by decide +kernel
theorem dX5_period_31 : decode cX5_period 31 = .ok (.if_icmp .gt 81, 3) := by decide +kernel
theorem dX5_period_34 : decode cX5_period 34 = .ok (.iload_n 2, 1) := by decide +kernel
theorem dX5_period_35 : decode cX5_period 35 = .ok (.iconst (-1), 1) := by decide +kernel
theorem dX5_period_36 : decode cX5_period 36 = .ok (.if_icmp .ne 76, 3) := by decide +kernel
theorem dX5_period_39 : decode cX5_period 39 = .ok (.iconst 0, 1) := by decide +kernel
theorem dX5_period_40 : decode cX5_period 40 = .ok (.istore 4, 2) := by decide +kernel
theorem dX5_period_42 : decode cX5_period 42 = .ok (.iload 4, 2) := by decide +kernel
theorem dX5_period_44 : decode cX5_period 44 = .ok (.iload_n 3, 1) := by decide +kernel
theorem dX5_period_45 : decode cX5_period 45 = .ok (.if_icmp .ge 37, 3) := by decide +kernel
theorem dX5_period_48 : decode cX5_period 48 = .ok (.iload_n 2, 1) := by decide +kernel
theorem dX5_period_49 : decode cX5_period 49 = .ok (.iconst (-1), 1) := by decide +kernel
theorem dX5_period_50 : decode cX5_period 50 = .ok (.if_icmp .ne 32, 3) := by decide +kernel
theorem dX5_period_53 : decode cX5_period 53 = .ok (.aload_n 0, 1) := by decide +kernel
theorem dX5_period_54 : decode cX5_period 54 = .ok (.iload 4, 2) := by decide +kernel
theorem dX5_period_56 : decode cX5_period 56 = .ok (.invokevirtual 143, 3) := by decide +kernel
theorem dX5_period_59 : decode cX5_period 59 = .ok (.ifCond .eq 17, 3) := by decide +kernel
theorem dX5_period_62 : decode cX5_period 62 = .ok (.iload_n 1, 1) := by decide +kernel
theorem dX5_period_63 : decode cX5_period 63 = .ok (.ifCond .ne 8, 3) := by decide +kernel
theorem dX5_period_66 : decode cX5_period 66 = .ok (.iload 4, 2) := by decide +kernel
theorem dX5_period_68 : decode cX5_period 68 = .ok (.goto 7, 3) := by decide +kernel
theorem dX5_period_71 : decode cX5_period 71 = .ok (.iload_n 3, 1) := by decide +kernel
theorem dX5_period_72 : decode cX5_period 72 = .ok (.iload 4, 2) := by decide +kernel
theorem dX5_period_74 : decode cX5_period 74 = .ok (.isub, 1) := by decide +kernel
theorem dX5_period_75 : decode cX5_period 75 = .ok (.istore_n 2, 1) := by decide +kernel
theorem dX5_period_76 : decode cX5_period 76 = .ok (.iinc 4 1, 3) := by decide +kernel
theorem dX5_period_79 : decode cX5_period 79 = .ok (.goto (-37), 3) := by decide +kernel
theorem dX5_period_82 : decode cX5_period 82 = .ok (.aload_n 0, 1) := by decide +kernel
theorem dX5_period_83 : decode cX5_period 83 = .ok (.getfield 16, 3) := by decide +kernel
theorem dX5_period_86 : decode cX5_period 86 = .ok (.iconst 0, 1) := by decide +kernel
theorem dX5_period_87 : decode cX5_period 87 = .ok (.aload_n 0, 1) := by decide +kernel
theorem dX5_period_88 : decode cX5_period 88 = .ok (.getfield 32, 3) := by decide +kernel
theorem dX5_period_91 : decode cX5_period 91 = .ok (.sipush 144, 3) := by decide +kernel
theorem dX5_period_94 : decode cX5_period 94 = .ok (.iload_n 3, 1) := by decide +kernel
theorem dX5_period_95 : decode cX5_period 95 = .ok (.imul, 1) := by decide +kernel
theorem dX5_period_96 : decode cX5_period 96 = .ok (.sipush 144, 3) := by decide +kernel
theorem dX5_period_99 : decode cX5_period 99 = .ok (.invokestatic 68, 3) := by decide +kernel
theorem dX5_period_102 : decode cX5_period 102 = .ok (.aload_n 0, 1) := by decide +kernel
theorem dX5_period_103 : decode cX5_period 103 = .ok (.invokevirtual 101, 3) := by decide +kernel
theorem dX5_period_106 : decode cX5_period 106 = .ok (.iinc 3 1, 3) := by decide +kernel
theorem dX5_period_109 : decode cX5_period 109 = .ok (.goto (-81), 3) := by decide +kernel
theorem dX5_period_112 : decode cX5_period 112 = .ok (.aload_n 0, 1) := by decide +kernel
theorem dX5_period_113 : decode cX5_period 113 = .ok (.invokevirtual 147, 3) := by decide +kernel
theorem dX5_period_116 : decode cX5_period 116 = .ok (.iload_n 2, 1) := by decide +kernel
theorem dX5_period_117 : decode cX5_period 117 = .ok (.ireturn, 1) := by decide +kernel
theorem dX5_until_0 : decode cX5_until 0 = .ok (.aload_n 0, 1) := by decide +kernel
theorem dX5_until_1 : decode cX5_until 1 = .ok (.iconst 0, 1) := by decide +kernel
theorem dX5_until_2 : decode cX5_until 2 = .ok (.putfield 41, 3) := by decide +kernel
theorem dX5_until_5 : decode cX5_until 5 = .ok (.aload_n 0, 1) := by decide +kernel
theorem dX5_until_6 : decode cX5_until 6 = .ok (.iload_n 1, 1) := by decide +kernel
theorem dX5_until_7 : decode cX5_until 7 = .ok (.iload_n 2, 1) := by decide +kernel
theorem dX5_until_8 : decode cX5_until 8 = .ok (.invokevirtual 77, 3) := by decide +kernel
theorem dX5_until_11 : decode cX5_until 11 = .ok (.ifCond .ne 9, 3) := by decide +kernel
theorem dX5_until_14 : decode cX5_until 14 = .ok (.aload_n 0, 1) := by decide +kernel
theorem dX5_until_15 : decode cX5_until 15 = .ok (.iconst 1, 1) := by decide +kernel
theorem dX5_until_16 : decode cX5_until 16 = .ok (.invokevirtual 74, 3) := by decide +kernel
theorem dX5_until_19 : decode cX5_until 19 = .ok (.ireturn, 1) := by decide +kernel
theorem dX5_until_20 : decode cX5_until 20 = .ok (.aload_n 0, 1) := by decide +kernel
theorem dX5_until_21 : decode cX5_until 21 = .ok (.invokevirtual 140, 3) := by decide +kernel
theorem dX5_until_24 : decode cX5_until 24 = .ok (.iconst 0, 1) := by decide +kernel
theorem dX5_until_25 : decode cX5_until 25 = .ok (.istore_n 3, 1) := by decide +kernel
theorem dX5_until_26 : decode cX5_until 26 = .ok (.iload_n 3, 1) := by decide +kernel
theorem dX5_until_27 : decode cX5_until 27 = .ok (.sipush 150, 3) := by decide +kernel
theorem dX5_until_30 : decode cX5_until 30 = .ok (.if_icmp .gt 27, 3) := by decide +kernel
theorem dX5_until_33 : decode cX5_until 33 = .ok (.aload_n 0, 1) := by decide +kernel
theorem dX5_until_34 : decode cX5_until 34 = .ok (.getfield 16, 3) := by decide +kernel
theorem dX5_until_37 : decode cX5_until 37 = .ok (.iload_n 1, 1) := by decide +kernel
theorem dX5_until_38 : decode cX5_until 38 = .ok (.iload_n 2, 1) := by decide +kernel
theorem dX5_until_39 : decode cX5_until 39 = .ok (.invokestatic 48, 3) := by decide +kernel
theorem dX5_until_42 : decode cX5_until 42 = .ok (.iaload, 1) := by decide +kernel
theorem dX5_until_43 : decode cX5_until 43 = .ok (.iconst 2, 1) := by decide +kernel
theorem dX5_until_44 : decode cX5_until 44 = .ok (.if_icmp .eq 13, 3) := by decide +kernel
theorem dX5_until_47 : decode cX5_until 47 = .ok (.aload_n 0, 1) := by decide +kernel
theorem dX5_until_48 : decode cX5_until 48 = .ok (.invokevirtual 101, 3) := by decide +kernel
theorem dX5_until_51 : decode cX5_until 51 = .ok (.iinc 3 1, 3) := by decide +kernel
theorem dX5_until_54 : decode cX5_until 54 = .ok (.goto (-28), 3) := by decide +kernel
theorem dX5_until_57 : decode cX5_until 57 = .ok (.aload_n 0, 1) := by decide +kernel
theorem dX5_until_58 : decode cX5_until 58 = .ok (.invokevirtual 147, 3) := by decide +kernel
theorem dX5_until_61 : decode cX5_until 61 = .ok (.iload_n 3, 1) := by decide +kernel
theorem dX5_until_62 : decode cX5_until 62 = .ok (.sipush 150, 3) := by decide +kernel
theorem dX5_until_65 : decode cX5_until 65 = .ok (.if_icmp .le 7, 3) := by decide +kernel
theorem dX5_until_68 : decode cX5_until 68 = .ok (.iconst (-1), 1) := by decide +kernel
theorem dX5_until_69 : decode cX5_until 69 = .ok (.goto 4, 3) := by decide +kernel
theorem dX5_until_72 : decode cX5_until 72 = .ok (.iload_n 3, 1) := by decide +kernel
theorem dX5_until_73 : decode cX5_until 73 = .ok (.ireturn, 1) := by decide +kernel
theorem dX5_foresee_0 : decode cX5_foresee 0 = .ok (.aload_n 0, 1) := by decide +kernel
theorem dX5_foresee_1 : decode cX5_foresee 1 = .ok (.iconst 0, 1) := by decide +kernel
theorem dX5_foresee_2 : decode cX5_foresee 2 = .ok (.putfield 41, 3) := by decide +kernel
theorem dX5_foresee_5 : decode cX5_foresee 5 = .ok (.iload_n 1, 1) := by decide +kernel
theorem dX5_foresee_6 : decode cX5_foresee 6 = .ok (.iconst 1, 1) := by decide +kernel
theorem dX5_foresee_7 : decode cX5_foresee 7 = .ok (.bipush 100, 2) := by decide +kernel
theorem dX5_foresee_9 : decode cX5_foresee 9 = .ok (.invokestatic 44, 3) := by decide +kernel
theorem dX5_foresee_12 : decode cX5_foresee 12 = .ok (.ifCond .ne 9, 3) := by decide +kernel
theorem dX5_foresee_15 : decode cX5_foresee 15 = .ok (.aload_n 0, 1) := by decide +kernel
theorem dX5_foresee_16 : decode cX5_foresee 16 = .ok (.iconst 1, 1) := by decide +kernel
theorem dX5_foresee_17 : decode cX5_foresee 17 = .ok (.invokevirtual 74, 3) := by decide +kernel
theorem dX5_foresee_20 : decode cX5_foresee 20 = .ok (.ireturn, 1) := by decide +kernel
theorem dX5_foresee_21 : decode cX5_foresee 21 = .ok (.iload_n 2, 1) := by decide +kernel
theorem dX5_foresee_22 : decode cX5_foresee 22 = .ok (.iconst 3, 1) := by decide +kernel
theorem dX5_foresee_23 : decode cX5_foresee 23 = .ok (.iconst 5, 1) := by decide +kernel
theorem dX5_foresee_24 : decode cX5_foresee 24 = .ok (.invokestatic 44, 3) := by decide +kernel
theorem dX5_foresee_27 : decode cX5_foresee 27 = .ok (.ifCond .ne 15, 3) := by decide +kernel
theorem dX5_foresee_30 : decode cX5_foresee 30 = .ok (.iload_n 2, 1) := by decide +kernel
theorem dX5_foresee_31 : decode cX5_foresee 31 = .ok (.bipush 9, 2) := by decide +kernel
theorem dX5_foresee_33 : decode cX5_foresee 33 = .ok (.if_icmp .eq 9, 3) := by decide +kernel
theorem dX5_foresee_36 : decode cX5_foresee 36 = .ok (.aload_n 0, 1) := by decide +kernel
theorem dX5_foresee_37 : decode cX5_foresee 37 = .ok (.iconst 2, 1) := by decide +kernel
theorem dX5_foresee_38 : decode cX5_foresee 38 = .ok (.invokevirtual 74, 3) := by decide +kernel
theorem dX5_foresee_41 : decode cX5_foresee 41 = .ok (.ireturn, 1) := by decide +kernel
theorem dX5_foresee_42 : decode cX5_foresee 42 = .ok (.aload_n 0, 1) := by decide +kernel
theorem dX5_foresee_43 : decode cX5_foresee 43 = .ok (.invokevirtual 140, 3) := by decide +kernel
theorem dX5_foresee_46 : decode cX5_foresee 46 = .ok (.iconst 0, 1) := by decide +kernel
theorem dX5_foresee_47 : decode cX5_foresee 47 = .ok (.istore_n 3, 1) := by decide +kernel
theorem dX5_foresee_48 : decode cX5_foresee 48 = .ok (.iload_n 3, 1) := by decide +kernel
theorem dX5_foresee_49 : decode cX5_foresee 49 = .ok (.iload_n 1, 1) := by decide +kernel
theorem dX5_foresee_50 : decode cX5_foresee 50 = .ok (.if_icmp .ge 18, 3) := by decide +kernel
theorem dX5_foresee_53 : decode cX5_foresee 53 = .ok (.aload_n 0, 1) := by decide +kernel
theorem dX5_foresee_54 : decode cX5_foresee 54 = .ok (.invokevirtual 101, 3) := by decide +kernel
theorem dX5_foresee_57 : decode cX5_foresee 57 = .ok (.aload_n 0, 1) := by decide +kernel
theorem dX5_foresee_58 : decode cX5_foresee 58 = .ok (.iconst 0, 1) := by decide +kernel
theorem dX5_foresee_59 : decode cX5_foresee 59 = .ok (.invokevirtual 107, 3) := by decide +kernel
theorem dX5_foresee_62 : decode cX5_foresee 62 = .ok (.iinc 3 1, 3) := by decide +kernel
theorem dX5_foresee_65 : decode cX5_foresee 65 = .ok (.goto (-17), 3) := by decide +kernel
theorem dX5_foresee_68 : decode cX5_foresee 68 = .ok (.aload_n 0, 1) := by decide +kernel
theorem dX5_foresee_69 : decode cX5_foresee 69 = .ok (.iload_n 2, 1) := by decide +kernel
theorem dX5_foresee_70 : decode cX5_foresee 70 = .ok (.invokevirtual 137, 3) := by decide +kernel
theorem dX5_foresee_73 : decode cX5_foresee 73 = .ok (.istore_n 3, 1) := by decide +kernel
theorem dX5_foresee_74 : decode cX5_foresee 74 = .ok (.aload_n 0, 1) := by decide +kernel
theorem dX5_foresee_75 : decode cX5_foresee 75 = .ok (.invokevirtual 147, 3) := by decide +kernel
theorem dX5_foresee_78 : decode cX5_foresee 78 = .ok (.iload_n 3, 1) := by decide +kernel
theorem dX5_foresee_79 : decode cX5_foresee 79 = .ok (.ireturn, 1) := by decide +kernel
theorem dX5_heads_0 : decode cX5_heads 0 = .ok (.iconst 0, 1) := by decide +kernel
theorem dX5_heads_1 : decode cX5_heads 1 = .ok (.istore_n 2, 1) := by decide +kernel
theorem dX5_heads_2 : decode cX5_heads 2 = .ok (.iload_n 2, 1) := by decide +kernel
theorem dX5_heads_3 : decode cX5_heads 3 = .ok (.iload_n 1, 1) := by decide +kernel
theorem dX5_heads_4 : decode cX5_heads 4 = .ok (.if_icmp .ge 13, 3) := by decide +kernel
theorem dX5_heads_7 : decode cX5_heads 7 = .ok (.aload_n 0, 1) := by decide +kernel
theorem dX5_heads_8 : decode cX5_heads 8 = .ok (.invokevirtual 101, 3) := by decide +kernel
theorem dX5_heads_11 : decode cX5_heads 11 = .ok (.iinc 2 1, 3) := by decide +kernel
theorem dX5_heads_14 : decode cX5_heads 14 = .ok (.goto (-12), 3) := by decide +kernel
theorem dX5_heads_17 : decode cX5_heads 17 = .ok (.aload_n 0, 1) := by decide +kernel
theorem dX5_heads_18 : decode cX5_heads 18 = .ok (.iconst 2, 1) := by decide +kernel
theorem dX5_heads_19 : decode cX5_heads 19 = .ok (.invokevirtual 98, 3) := by decide +kernel
theorem dX5_heads_22 : decode cX5_heads 22 = .ok (.istore_n 2, 1) := by decide +kernel
theorem dX5_heads_23 : decode cX5_heads 23 = .ok (.aload_n 0, 1) := by decide +kernel
theorem dX5_heads_24 : decode cX5_heads 24 = .ok (.invokevirtual 147, 3) := by decide +kernel
theorem dX5_heads_27 : decode cX5_heads 27 = .ok (.iload_n 2, 1) := by decide +kernel
theorem dX5_heads_28 : decode cX5_heads 28 = .ok (.ireturn, 1) := by decide +kernel
theorem dX5_advise_0 : decode cX5_advise 0 = .ok (.aload_n 0, 1) := by decide +kernel
theorem dX5_advise_1 : decode cX5_advise 1 = .ok (.iconst 0, 1) := by decide +kernel
theorem dX5_advise_2 : decode cX5_advise 2 = .ok (.putfield 41, 3) := by decide +kernel
theorem dX5_advise_5 : decode cX5_advise 5 = .ok (.iload_n 1, 1) := by decide +kernel
theorem dX5_advise_6 : decode cX5_advise 6 = .ok (.iconst 1, 1) := by decide +kernel
theorem dX5_advise_7 : decode cX5_advise 7 = .ok (.iconst 4, 1) := by decide +kernel
theorem dX5_advise_8 : decode cX5_advise 8 = .ok (.invokestatic 44, 3) := by decide +kernel
theorem dX5_advise_11 : decode cX5_advise 11 = .ok (.ifCond .ne 9, 3) := by decide +kernel
theorem dX5_advise_14 : decode cX5_advise 14 = .ok (.aload_n 0, 1) := by decide +kernel
theorem dX5_advise_15 : decode cX5_advise 15 = .ok (.iconst 1, 1) := by decide +kernel
theorem dX5_advise_16 : decode cX5_advise 16 = .ok (.invokevirtual 74, 3) := by decide +kernel
theorem dX5_advise_19 : decode cX5_advise 19 = .ok (.ireturn, 1) := by decide +kernel
theorem dX5_advise_20 : decode cX5_advise 20 = .ok (.aload_n 0, 1) := by decide +kernel
theorem dX5_advise_21 : decode cX5_advise 21 = .ok (.invokevirtual 140, 3) := by decide +kernel
theorem dX5_advise_24 : decode cX5_advise 24 = .ok (.aload_n 0, 1) := by decide +kernel
theorem dX5_advise_25 : decode cX5_advise 25 = .ok (.iload_n 1, 1) := by decide +kernel
theorem dX5_advise_26 : decode cX5_advise 26 = .ok (.invokevirtual 150, 3) := by decide +kernel
theorem dX5_advise_29 : decode cX5_advise 29 = .ok (.istore_n 2, 1) := by decide +kernel
theorem dX5_advise_30 : decode cX5_advise 30 = .ok (.iconst (-1), 1) := by decide +kernel
theorem dX5_advise_31 : decode cX5_advise 31 = .ok (.istore_n 3, 1) := by decide +kernel
theorem dX5_advise_32 : decode cX5_advise 32 = .ok (.iconst 0, 1) := by decide +kernel
theorem dX5_advise_33 : decode cX5_advise 33 = .ok (.istore 4, 2) := by decide +kernel
theorem dX5_advise_35 : decode cX5_advise 35 = .ok (.iload 4, 2) := by decide +kernel
theorem dX5_advise_37 : decode cX5_advise 37 = .ok (.aload_n 0, 1) := by decide +kernel
theorem dX5_advise_38 : decode cX5_advise 38 = .ok (.getfield 7, 3) := by decide +kernel
theorem dX5_advise_41 : decode cX5_advise 41 = .ok (.aload_n 0, 1) := by decide +kernel
theorem dX5_advise_42 : decode cX5_advise 42 = .ok (.getfield 13, 3) := by decide +kernel
theorem dX5_advise_45 : decode cX5_advise 45 = .ok (.imul, 1) := by decide +kernel
theorem dX5_advise_46 : decode cX5_advise 46 = .ok (.if_icmp .ge 61, 3) := by decide +kernel
theorem dX5_advise_49 : decode cX5_advise 49 = .ok (.aload_n 0, 1) := by decide +kernel
theorem dX5_advise_50 : decode cX5_advise 50 = .ok (.getfield 16, 3) := by decide +kernel
theorem dX5_advise_53 : decode cX5_advise 53 = .ok (.aload_n 0, 1) := by decide +kernel
theorem dX5_advise_54 : decode cX5_advise 54 = .ok (.iload 4, 2) := by decide +kernel
theorem dX5_advise_56 : decode cX5_advise 56 = .ok (.invokevirtual 58, 3) := by decide +kernel
theorem dX5_advise_59 : decode cX5_advise 59 = .ok (.iaload, 1) := by decide +kernel
theorem dX5_advise_60 : decode cX5_advise 60 = .ok (.iconst 1, 1) := by decide +kernel
theorem dX5_advise_61 : decode cX5_advise 61 = .ok (.if_icmp .eq 6, 3) := by decide +kernel
theorem dX5_advise_64 : decode cX5_advise 64 = .ok (.goto 37, 3) := by decide +kernel
theorem dX5_advise_67 : decode cX5_advise 67 = .ok (.aload_n 0, 1) := by decide +kernel
theorem dX5_advise_68 : decode cX5_advise 68 = .ok (.getfield 16, 3) := by decide +kernel
theorem dX5_advise_71 : decode cX5_advise 71 = .ok (.aload_n 0, 1) := by decide +kernel
theorem dX5_advise_72 : decode cX5_advise 72 = .ok (.iload 4, 2) := by decide +kernel
theorem dX5_advise_74 : decode cX5_advise 74 = .ok (.invokevirtual 58, 3) := by decide +kernel
theorem dX5_advise_77 : decode cX5_advise 77 = .ok (.iconst 0, 1) := by decide +kernel
theorem dX5_advise_78 : decode cX5_advise 78 = .ok (.iastore, 1) := by decide +kernel
theorem dX5_advise_79 : decode cX5_advise 79 = .ok (.aload_n 0, 1) := by decide +kernel
theorem dX5_advise_80 : decode cX5_advise 80 = .ok (.iload_n 1, 1) := by decide +kernel
theorem dX5_advise_81 : decode cX5_advise 81 = .ok (.invokevirtual 150, 3) := by decide +kernel
theorem dX5_advise_84 : decode cX5_advise 84 = .ok (.istore 5, 2) := by decide +kernel
theorem dX5_advise_86 : decode cX5_advise 86 = .ok (.iload 5, 2) := by decide +kernel
theorem dX5_advise_88 : decode cX5_advise 88 = .ok (.iload_n 2, 1) := by decide +kernel
theorem dX5_advise_89 : decode cX5_advise 89 = .ok (.if_icmp .lt 6, 3) := by decide +kernel
theorem dX5_advise_92 : decode cX5_advise 92 = .ok (.goto 9, 3) := by decide +kernel
theorem dX5_advise_95 : decode cX5_advise 95 = .ok (.iload 4, 2) := by decide +kernel
theorem dX5_advise_97 : decode cX5_advise 97 = .ok (.istore_n 3, 1) := by decide +kernel
theorem dX5_advise_98 : decode cX5_advise 98 = .ok (.iload 5, 2) := by decide +kernel
theorem dX5_advise_100 : decode cX5_advise 100 = .ok (.istore_n 2, 1) := by decide +kernel
theorem dX5_advise_101 : decode cX5_advise 101 = .ok (.iinc 4 1, 3) := by decide +kernel
theorem dX5_advise_104 : decode cX5_advise 104 = .ok (.goto (-69), 3) := by decide +kernel
theorem dX5_advise_107 : decode cX5_advise 107 = .ok (.iload_n 3, 1) := by decide +kernel
theorem dX5_advise_108 : decode cX5_advise 108 = .ok (.ireturn, 1) := by decide +kernel
theorem dX5_mean_0 : decode cX5_mean 0 = .ok (.aload_n 0, 1) := by decide +kernel
theorem dX5_mean_1 : decode cX5_mean 1 = .ok (.iconst 0, 1) := by decide +kernel
theorem dX5_mean_2 : decode cX5_mean 2 = .ok (.putfield 41, 3) := by decide +kernel
theorem dX5_mean_5 : decode cX5_mean 5 = .ok (.aload_n 0, 1) := by decide +kernel
theorem dX5_mean_6 : decode cX5_mean 6 = .ok (.getfield 104, 3) := by decide +kernel
theorem dX5_mean_9 : decode cX5_mean 9 = .ok (.ifCond .ne 7, 3) := by decide +kernel
theorem dX5_mean_12 : decode cX5_mean 12 = .ok (.dconst 0, 1) := by decide +kernel
theorem dX5_mean_13 : decode cX5_mean 13 = .ok (.goto 14, 3) := by decide +kernel
theorem dX5_mean_16 : decode cX5_mean 16 = .ok (.aload_n 0, 1) := by decide +kernel
theorem dX5_mean_17 : decode cX5_mean 17 = .ok (.getfield 111, 3) := by decide +kernel
theorem dX5_mean_20 : decode cX5_mean 20 = .ok (.i2d, 1) := by decide +kernel
theorem dX5_mean_21 : decode cX5_mean 21 = .ok (.aload_n 0, 1) := by decide +kernel
theorem dX5_mean_22 : decode cX5_mean 22 = .ok (.getfield 104, 3) := by decide +kernel
theorem dX5_mean_25 : decode cX5_mean 25 = .ok (.i2d, 1) := by decide +kernel
theorem dX5_mean_26 : decode cX5_mean 26 = .ok (.ddiv, 1) := by decide +kernel
theorem dX5_mean_27 : decode cX5_mean 27 = .ok (.dreturn, 1) := by decide +kernel
theorem dX5_digest_0 : decode cX5_digest 0 = .ok (.aload_n 0, 1) := by decide +kernel
theorem dX5_digest_1 : decode cX5_digest 1 = .ok (.iconst 0, 1) := by decide +kernel
theorem dX5_digest_2 : decode cX5_digest 2 = .ok (.putfield 41, 3) := by decide +kernel
theorem dX5_digest_5 : decode cX5_digest 5 = .ok (.ldc2_w 153, 3) := by decide +kernel
theorem dX5_digest_8 : decode cX5_digest 8 = .ok (.lstore_n 1, 1) := by decide +kernel
theorem dX5_digest_9 : decode cX5_digest 9 = .ok (.iconst 0, 1) := by decide +kernel
theorem dX5_digest_10 : decode cX5_digest 10 = .ok (.istore_n 3, 1) := by decide +kernel
theorem dX5_digest_11 : decode cX5_digest 11 = .ok (.iload_n 3, 1) := by decide +kernel
theorem dX5_digest_12 : decode cX5_digest 12 = .ok (.bipush 10, 2) := by decide +kernel
theorem dX5_digest_14 : decode cX5_digest 14 = .ok (.if_icmp .ge 22, 3) := by decide +kernel
theorem dX5_digest_17 : decode cX5_digest 17 = .ok (.lload_n 1, 1) := by decide +kernel
theorem dX5_digest_18 : decode cX5_digest 18 = .ok (.ldc2_w 155, 3) := by decide +kernel
theorem dX5_digest_21 : decode cX5_digest 21 = .ok (.lmul, 1) := by decide +kernel
theorem dX5_digest_22 : decode cX5_digest 22 = .ok (.aload_n 0, 1) := by decide +kernel
theorem dX5_digest_23 : decode cX5_digest 23 = .ok (.iload_n 3, 1) := by decide +kernel
theorem dX5_digest_24 : decode cX5_digest 24 = .ok (.invokevirtual 137, 3) := by decide +kernel
theorem dX5_digest_27 : decode cX5_digest 27 = .ok (.i2l, 1) := by decide +kernel
theorem dX5_digest_28 : decode cX5_digest 28 = .ok (.ladd, 1) := by decide +kernel
theorem dX5_digest_29 : decode cX5_digest 29 = .ok (.lstore_n 1, 1) := by decide +kernel
theorem dX5_digest_30 : decode cX5_digest 30 = .ok (.iinc 3 1, 3) := by decide +kernel
theorem dX5_digest_33 : decode cX5_digest 33 = .ok (.goto (-22), 3) := by decide +kernel
theorem dX5_digest_36 : decode cX5_digest 36 = .ok (.iconst 0, 1) := by decide +kernel
theorem dX5_digest_37 : decode cX5_digest 37 = .ok (.istore_n 3, 1) := by decide +kernel
theorem dX5_digest_38 : decode cX5_digest 38 = .ok (.iload_n 3, 1) := by decide +kernel
theorem dX5_digest_39 : decode cX5_digest 39 = .ok (.aload_n 0, 1) := by decide +kernel
theorem dX5_digest_40 : decode cX5_digest 40 = .ok (.getfield 7, 3) := by decide +kernel
theorem dX5_digest_43 : decode cX5_digest 43 = .ok (.aload_n 0, 1) := by decide +kernel
theorem dX5_digest_44 : decode cX5_digest 44 = .ok (.getfield 13, 3) := by decide +kernel
theorem dX5_digest_47 : decode cX5_digest 47 = .ok (.imul, 1) := by decide +kernel
theorem dX5_digest_48 : decode cX5_digest 48 = .ok (.if_icmp .ge 43, 3) := by decide +kernel
theorem dX5_digest_51 : decode cX5_digest 51 = .ok (.iconst 0, 1) := by decide +kernel
theorem dX5_digest_52 : decode cX5_digest 52 = .ok (.istore 4, 2) := by decide +kernel
theorem dX5_digest_54 : decode cX5_digest 54 = .ok (.iload 4, 2) := by decide +kernel
theorem dX5_digest_56 : decode cX5_digest 56 = .ok (.iconst 5, 1) := by decide +kernel
theorem dX5_digest_57 : decode cX5_digest 57 = .ok (.if_icmp .ge 28, 3) := by decide +kernel
theorem dX5_digest_60 : decode cX5_digest 60 = .ok (.lload_n 1, 1) := by decide +kernel
theorem dX5_digest_61 : decode cX5_digest 61 = .ok (.ldc2_w 155, 3) := by decide +kernel
theorem dX5_digest_64 : decode cX5_digest 64 = .ok (.lmul, 1) := by decide +kernel
theorem dX5_digest_65 : decode cX5_digest 65 = .ok (.aload_n 0, 1) := by decide +kernel
theorem dX5_digest_66 : decode cX5_digest 66 = .ok (.aload_n 0, 1) := by decide +kernel
theorem dX5_digest_67 : decode cX5_digest 67 = .ok (.iload_n 3, 1) := by decide +kernel
theorem dX5_digest_68 : decode cX5_digest 68 = .ok (.invokevirtual 58, 3) := by decide +kernel
theorem dX5_digest_71 : decode cX5_digest 71 = .ok (.iload 4, 2) := by decide +kernel
theorem dX5_digest_73 : decode cX5_digest 73 = .ok (.invokevirtual 120, 3) := by decide +kernel
theorem dX5_digest_76 : decode cX5_digest 76 = .ok (.i2l, 1) := by decide +kernel
theorem dX5_digest_77 : decode cX5_digest 77 = .ok (.ladd, 1) := by decide +kernel
theorem dX5_digest_78 : decode cX5_digest 78 = .ok (.lstore_n 1, 1) := by decide +kernel
theorem dX5_digest_79 : decode cX5_digest 79 = .ok (.iinc 4 1, 3) := by decide +kernel
theorem dX5_digest_82 : decode cX5_digest 82 = .ok (.goto (-28), 3) := by decide +kernel
theorem dX5_digest_85 : decode cX5_digest 85 = .ok (.iinc 3 1, 3) := by decide +kernel
theorem dX5_digest_88 : decode cX5_digest 88 = .ok (.goto (-50), 3) := by decide +kernel
theorem dX5_digest_91 : decode cX5_digest 91 = .ok (.iconst 0, 1) := by decide +kernel
theorem dX5_digest_92 : decode cX5_digest 92 = .ok (.istore_n 3, 1) := by decide +kernel
theorem dX5_digest_93 : decode cX5_digest 93 = .ok (.iload_n 3, 1) := by decide +kernel
theorem dX5_digest_94 : decode cX5_digest 94 = .ok (.aload_n 0, 1) := by decide +kernel
theorem dX5_digest_95 : decode cX5_digest 95 = .ok (.getfield 65, 3) := by decide +kernel
theorem dX5_digest_98 : decode cX5_digest 98 = .ok (.if_icmp .ge 39, 3) := by decide +kernel
theorem dX5_digest_101 : decode cX5_digest 101 = .ok (.iconst 0, 1) := by decide +kernel
theorem dX5_digest_102 : decode cX5_digest 102 = .ok (.istore 4, 2) := by decide +kernel
theorem dX5_digest_104 : decode cX5_digest 104 = .ok (.iload 4, 2) := by decide +kernel
theorem dX5_digest_106 : decode cX5_digest 106 = .ok (.iconst 4, 1) := by decide +kernel
theorem dX5_digest_107 : decode cX5_digest 107 = .ok (.if_icmp .ge 24, 3) := by decide +kernel
theorem dX5_digest_110 : decode cX5_digest 110 = .ok (.lload_n 1, 1) := by decide +kernel
theorem dX5_digest_111 : decode cX5_digest 111 = .ok (.ldc2_w 155, 3) := by decide +kernel
theorem dX5_digest_114 : decode cX5_digest 114 = .ok (.lmul, 1) := by decide +kernel
theorem dX5_digest_115 : decode cX5_digest 115 = .ok (.aload_n 0, 1) := by decide +kernel
theorem dX5_digest_116 : decode cX5_digest 116 = .ok (.iload_n 3, 1) := by decide +kernel
theorem dX5_digest_117 : decode cX5_digest 117 = .ok (.iload 4, 2) := by decide +kernel
theorem dX5_digest_119 : decode cX5_digest 119 = .ok (.invokevirtual 123, 3) := by decide +kernel
theorem dX5_digest_122 : decode cX5_digest 122 = .ok (.i2l, 1) := by decide +kernel
theorem dX5_digest_123 : decode cX5_digest 123 = .ok (.ladd, 1) := by decide +kernel
theorem dX5_digest_124 : decode cX5_digest 124 = .ok (.lstore_n 1, 1) := by decide +kernel
theorem dX5_digest_125 : decode cX5_digest 125 = .ok (.iinc 4 1, 3) := by decide +kernel
theorem dX5_digest_128 : decode cX5_digest 128 = .ok (.goto (-24), 3) := by decide +kernel
theorem dX5_digest_131 : decode cX5_digest 131 = .ok (.iinc 3 1, 3) := by decide +kernel
theorem dX5_digest_134 : decode cX5_digest 134 = .ok (.goto (-41), 3) := by decide +kernel
theorem dX5_digest_137 : decode cX5_digest 137 = .ok (.lload_n 1, 1) := by decide +kernel
theorem dX5_digest_138 : decode cX5_digest 138 = .ok (.ldc2_w 155, 3) := by decide +kernel
theorem dX5_digest_141 : decode cX5_digest 141 = .ok (.lmul, 1) := by decide +kernel
theorem dX5_digest_142 : decode cX5_digest 142 = .ok (.aload_n 0, 1) := by decide +kernel
theorem dX5_digest_143 : decode cX5_digest 143 = .ok (.getfield 111, 3) := by decide +kernel
theorem dX5_digest_146 : decode cX5_digest 146 = .ok (.i2l, 1) := by decide +kernel
theorem dX5_digest_147 : decode cX5_digest 147 = .ok (.ladd, 1) := by decide +kernel
theorem dX5_digest_148 : decode cX5_digest 148 = .ok (.lreturn, 1) := by decide +kernel
set_option maxRecDepth 20000 in
theorem ggX5_isCell_X5_isIn : GoodIn wsX5_isCell wsX5_isIn := goodIn_r _ [6] (by decide +kernel) (by decide +kernel)
set_option maxRecDepth 20000 in
theorem gX5_isCell_X5_isIn : GoodIn wsX5_isCell (va_wsS RX5 44 yX5_isIn wsX5_isIn) := goodIn_app (goodIn_of _ (by decide +kernel)) ggX5_isCell_X5_isIn
set_option maxRecDepth 20000 in
theorem ggX5_cell_X5_at : GoodIn wsX5_cell wsX5_at := goodIn_r _ [5] (by decide +kernel) (by decide +kernel)
set_option maxRecDepth 20000 in
theorem gX5_cell_X5_at : GoodIn wsX5_cell (va_wsS RX5 48 yX5_at wsX5_at) := goodIn_app (goodIn_of _ (by decide +kernel)) ggX5_cell_X5_at
set_option maxRecDepth 20000 in
theorem ggX5_next_X5_around : GoodIn wsX5_next wsX5_around := goodIn_r _ [6, 7, 1, 8, 9, 10, 11, 12, 13, 14, 15, 16, 17, 18, 19, 20, 21] (by decide +kernel) (by decide +kernel)
set_option maxRecDepth 20000 in
theorem gX5_next_X5_around : GoodIn wsX5_next (wsV RX5 55 RX5 yX5_around wsX5_around) := goodIn_app (goodIn_of _ (by decide +kernel)) ggX5_next_X5_around
set_option maxRecDepth 20000 in
theorem ggX5_cells_X5_cell : GoodIn wsX5_cells wsX5_cell := goodIn_r _ [8, 1, 9, 10, 7, 11, 12, 13, 14, 15, 16, 17, 18, 19, 20, 21, 22, 23, 24, 25] (by decide +kernel) (by decide +kernel)
set_option maxRecDepth 20000 in
theorem gX5_cells_X5_cell : GoodIn wsX5_cells (wsV RX5 58 RX5 yX5_cell wsX5_cell) := goodIn_app (goodIn_of _ (by decide +kernel)) ggX5_cells_X5_cell
set_option maxRecDepth 20000 in
theorem ggX5_step_X5_cell : GoodIn wsX5_step wsX5_cell := goodIn_r _ [9, 1, 10, 11, 8, 12, 22, 23, 24, 25, 26, 27, 28, 29, 30, 31, 32, 33, 34, 35] (by decide +kernel) (by decide +kernel)
set_option maxRecDepth 20000 in
theorem gX5_step_X5_cell : GoodIn wsX5_step (wsV RX5 58 RX5 yX5_cell wsX5_cell) := goodIn_app (goodIn_of _ (by decide +kernel)) ggX5_step_X5_cell
set_option maxRecDepth 20000 in
theorem ggX5_step_X5_next : GoodIn wsX5_step wsX5_next := goodIn_r _ [16, 4, 17, 18, 19, 8, 20, 21, 22, 23, 24, 25, 26, 27, 28, 29, 30, 31, 32, 33, 34, 35] (by decide +kernel) (by decide +kernel)
set_option maxRecDepth 20000 in
theorem gX5_step_X5_next : GoodIn wsX5_step (wsV RX5 62 RX5 yX5_next wsX5_next) := goodIn_app (goodIn_of _ (by decide +kernel)) ggX5_step_X5_next
set_option maxRecDepth 20000 in
theorem ggX5_setBoard_X5_isIn : GoodIn wsX5_setBoard wsX5_isIn := goodIn_r _ [9] (by decide +kernel) (by decide +kernel)
set_option maxRecDepth 20000 in
theorem gX5_setBoard_X5_isIn : GoodIn wsX5_setBoard (va_wsS RX5 44 yX5_isIn wsX5_isIn) := goodIn_app (goodIn_of _ (by decide +kernel)) ggX5_setBoard_X5_isIn
set_option maxRecDepth 20000 in
theorem ggX5_setBoard_X5_fail : GoodIn wsX5_setBoard wsX5_fail := goodIn_r _ [13, 1, 14, 15, 16, 17, 18, 19, 20, 21, 22, 23, 24, 25, 26, 27] (by decide +kernel) (by decide +kernel)
set_option maxRecDepth 20000 in
theorem gX5_setBoard_X5_fail : GoodIn wsX5_setBoard (wsV RX5 74 RX5 yX5_fail wsX5_fail) := goodIn_app (goodIn_of _ (by decide +kernel)) ggX5_setBoard_X5_fail
set_option maxRecDepth 20000 in
theorem ggX5_set_X5_isCell : GoodIn wsX5_set wsX5_isCell := goodIn_r _ [7, 8, 9, 10, 11, 6, 12, 20, 21, 22, 23, 24, 25, 26, 27, 28, 29, 30, 31, 32, 33] (by decide +kernel) (by decide +kernel)
set_option maxRecDepth 20000 in
theorem gX5_set_X5_isCell : GoodIn wsX5_set (wsV RX5 77 RX5 yX5_isCell wsX5_isCell) := goodIn_app (goodIn_of _ (by decide +kernel)) ggX5_set_X5_isCell
set_option maxRecDepth 20000 in
theorem ggX5_set_X5_fail : GoodIn wsX5_set wsX5_fail := goodIn_r _ [16, 1, 20, 21, 22, 23, 24, 25, 26, 27, 28, 29, 30, 31, 32, 33] (by decide +kernel) (by decide +kernel)
set_option maxRecDepth 20000 in
theorem gX5_set_X5_fail : GoodIn wsX5_set (wsV RX5 74 RX5 yX5_fail wsX5_fail) := goodIn_app (goodIn_of _ (by decide +kernel)) ggX5_set_X5_fail
set_option maxRecDepth 20000 in
theorem ggX5_set_X5_isIn : GoodIn wsX5_set wsX5_isIn := goodIn_r _ [12] (by decide +kernel) (by decide +kernel)
set_option maxRecDepth 20000 in
theorem gX5_set_X5_isIn : GoodIn wsX5_set (va_wsS RX5 44 yX5_isIn wsX5_isIn) := goodIn_app (goodIn_of _ (by decide +kernel)) ggX5_set_X5_isIn
set_option maxRecDepth 20000 in
theorem ggX5_set_X5_at : GoodIn wsX5_set wsX5_at := goodIn_r _ [19] (by decide +kernel) (by decide +kernel)
set_option maxRecDepth 20000 in
theorem gX5_set_X5_at : GoodIn wsX5_set (va_wsS RX5 48 yX5_at wsX5_at) := goodIn_app (goodIn_of _ (by decide +kernel)) ggX5_set_X5_at
set_option maxRecDepth 20000 in
theorem ggX5_line_X5_isCell : GoodIn wsX5_line wsX5_isCell := goodIn_r _ [10, 11, 12, 13, 14, 9, 15, 32, 33, 34, 35, 36, 37, 38, 39, 40, 41, 42, 43, 44, 45] (by decide +kernel) (by decide +kernel)
set_option maxRecDepth 20000 in
theorem gX5_line_X5_isCell : GoodIn wsX5_line (wsV RX5 77 RX5 yX5_isCell wsX5_isCell) := goodIn_app (goodIn_of _ (by decide +kernel)) ggX5_line_X5_isCell
set_option maxRecDepth 20000 in
theorem ggX5_line_X5_fail : GoodIn wsX5_line wsX5_fail := goodIn_r _ [19, 1, 32, 33, 34, 35, 36, 37, 38, 39, 40, 41, 42, 43, 44, 45] (by decide +kernel) (by decide +kernel)
set_option maxRecDepth 20000 in
theorem gX5_line_X5_fail : GoodIn wsX5_line (wsV RX5 74 RX5 yX5_fail wsX5_fail) := goodIn_app (goodIn_of _ (by decide +kernel)) ggX5_line_X5_fail
set_option maxRecDepth 20000 in
theorem ggX5_line_J6_signum_0f7a4 : GoodIn wsX5_line wsJ6_signum_0f7a4 := goodIn_r _ [23] (by decide +kernel) (by decide +kernel)
set_option maxRecDepth 20000 in
theorem gX5_line_J6_signum_0f7a4 : GoodIn wsX5_line (va_wsS RX5 86 yJ6_signum_0f7a4 wsJ6_signum_0f7a4) := goodIn_app (goodIn_of _ (by decide +kernel)) ggX5_line_J6_signum_0f7a4
set_option maxRecDepth 20000 in
theorem ggX5_line_X5_at : GoodIn wsX5_line wsX5_at := goodIn_r _ [26] (by decide +kernel) (by decide +kernel)
set_option maxRecDepth 20000 in
theorem gX5_line_X5_at : GoodIn wsX5_line (va_wsS RX5 48 yX5_at wsX5_at) := goodIn_app (goodIn_of _ (by decide +kernel)) ggX5_line_X5_at
set_option maxRecDepth 20000 in
theorem ggX5_line_X5_lay : GoodIn wsX5_line wsX5_lay := goodIn_r _ [30, 31, 32, 33, 34, 35, 36, 37, 38, 39, 40, 41, 42, 43, 44, 45] (by decide +kernel) (by decide +kernel)
set_option maxRecDepth 20000 in
theorem gX5_line_X5_lay : GoodIn wsX5_line (wsV RX5 91 RX5 yX5_lay wsX5_lay) := goodIn_app (goodIn_of _ (by decide +kernel)) ggX5_line_X5_lay
set_option maxRecDepth 20000 in
theorem ggX5_ring_X5_fail : GoodIn wsX5_ring wsX5_fail := goodIn_r _ [8, 1, 24, 25, 26, 27, 28, 29, 30, 31, 32, 33, 34, 35, 36, 37] (by decide +kernel) (by decide +kernel)
set_option maxRecDepth 20000 in
theorem gX5_ring_X5_fail : GoodIn wsX5_ring (wsV RX5 74 RX5 yX5_fail wsX5_fail) := goodIn_app (goodIn_of _ (by decide +kernel)) ggX5_ring_X5_fail
set_option maxRecDepth 20000 in
theorem ggX5_ring_X5_isCell : GoodIn wsX5_ring wsX5_isCell := goodIn_r _ [12, 2, 3, 13, 14, 7, 15, 24, 25, 26, 27, 28, 29, 30, 31, 32, 33, 34, 35, 36, 37] (by decide +kernel) (by decide +kernel)
set_option maxRecDepth 20000 in
theorem gX5_ring_X5_isCell : GoodIn wsX5_ring (wsV RX5 77 RX5 yX5_isCell wsX5_isCell) := goodIn_app (goodIn_of _ (by decide +kernel)) ggX5_ring_X5_isCell
set_option maxRecDepth 20000 in
theorem ggX5_ring_X5_at : GoodIn wsX5_ring wsX5_at := goodIn_r _ [18] (by decide +kernel) (by decide +kernel)
set_option maxRecDepth 20000 in
theorem gX5_ring_X5_at : GoodIn wsX5_ring (va_wsS RX5 48 yX5_at wsX5_at) := goodIn_app (goodIn_of _ (by decide +kernel)) ggX5_ring_X5_at
set_option maxRecDepth 20000 in
theorem ggX5_ring_X5_lay : GoodIn wsX5_ring wsX5_lay := goodIn_r _ [22, 23, 24, 25, 26, 27, 28, 29, 30, 31, 32, 33, 34, 35, 36, 37] (by decide +kernel) (by decide +kernel)
set_option maxRecDepth 20000 in
theorem gX5_ring_X5_lay : GoodIn wsX5_ring (wsV RX5 91 RX5 yX5_lay wsX5_lay) := goodIn_app (goodIn_of _ (by decide +kernel)) ggX5_ring_X5_lay
set_option maxRecDepth 20000 in
theorem ggX5_stamp_X5_isIn : GoodIn wsX5_stamp wsX5_isIn := goodIn_r _ [9] (by decide +kernel) (by decide +kernel)
set_option maxRecDepth 20000 in
theorem gX5_stamp_X5_isIn : GoodIn wsX5_stamp (va_wsS RX5 44 yX5_isIn wsX5_isIn) := goodIn_app (goodIn_of _ (by decide +kernel)) ggX5_stamp_X5_isIn
set_option maxRecDepth 20000 in
theorem ggX5_stamp_X5_isCell : GoodIn wsX5_stamp wsX5_isCell := goodIn_r _ [13, 2, 3, 6, 7, 8, 9, 21, 22, 23, 24, 25, 26, 27, 28, 29, 30, 31, 32, 33, 34] (by decide +kernel) (by decide +kernel)
set_option maxRecDepth 20000 in
theorem gX5_stamp_X5_isCell : GoodIn wsX5_stamp (wsV RX5 77 RX5 yX5_isCell wsX5_isCell) := goodIn_app (goodIn_of _ (by decide +kernel)) ggX5_stamp_X5_isCell
set_option maxRecDepth 20000 in
theorem ggX5_stamp_X5_fail : GoodIn wsX5_stamp wsX5_fail := goodIn_r _ [17, 1, 21, 22, 23, 24, 25, 26, 27, 28, 29, 30, 31, 32, 33, 34] (by decide +kernel) (by decide +kernel)
set_option maxRecDepth 20000 in
theorem gX5_stamp_X5_fail : GoodIn wsX5_stamp (wsV RX5 74 RX5 yX5_fail wsX5_fail) := goodIn_app (goodIn_of _ (by decide +kernel)) ggX5_stamp_X5_fail
set_option maxRecDepth 20000 in
theorem ggX5_stamp_X5_at : GoodIn wsX5_stamp wsX5_at := goodIn_r _ [20] (by decide +kernel) (by decide +kernel)
set_option maxRecDepth 20000 in
theorem gX5_stamp_X5_at : GoodIn wsX5_stamp (va_wsS RX5 48 yX5_at wsX5_at) := goodIn_app (goodIn_of _ (by decide +kernel)) ggX5_stamp_X5_at
set_option maxRecDepth 20000 in
theorem ggX5_spark_X5_isCell : GoodIn wsX5_spark wsX5_isCell := goodIn_r _ [8, 9, 10, 11, 12, 7, 13, 29, 30, 31, 32, 33, 34, 35, 36, 37, 38, 39, 40, 41, 42] (by decide +kernel) (by decide +kernel)
set_option maxRecDepth 20000 in
theorem gX5_spark_X5_isCell : GoodIn wsX5_spark (wsV RX5 77 RX5 yX5_isCell wsX5_isCell) := goodIn_app (goodIn_of _ (by decide +kernel)) ggX5_spark_X5_isCell
set_option maxRecDepth 20000 in
theorem ggX5_spark_X5_isIn : GoodIn wsX5_spark wsX5_isIn := goodIn_r _ [13] (by decide +kernel) (by decide +kernel)
set_option maxRecDepth 20000 in
theorem gX5_spark_X5_isIn : GoodIn wsX5_spark (va_wsS RX5 44 yX5_isIn wsX5_isIn) := goodIn_app (goodIn_of _ (by decide +kernel)) ggX5_spark_X5_isIn
set_option maxRecDepth 20000 in
theorem ggX5_spark_X5_fail : GoodIn wsX5_spark wsX5_fail := goodIn_r _ [17, 1, 29, 30, 31, 32, 33, 34, 35, 36, 37, 38, 39, 40, 41, 42] (by decide +kernel) (by decide +kernel)
set_option maxRecDepth 20000 in
theorem gX5_spark_X5_fail : GoodIn wsX5_spark (wsV RX5 74 RX5 yX5_fail wsX5_fail) := goodIn_app (goodIn_of _ (by decide +kernel)) ggX5_spark_X5_fail
set_option maxRecDepth 20000 in
theorem ggX5_spark_X5_at : GoodIn wsX5_spark wsX5_at := goodIn_r _ [20] (by decide +kernel) (by decide +kernel)
set_option maxRecDepth 20000 in
theorem gX5_spark_X5_at : GoodIn wsX5_spark (va_wsS RX5 48 yX5_at wsX5_at) := goodIn_app (goodIn_of _ (by decide +kernel)) ggX5_spark_X5_at
set_option maxRecDepth 20000 in
theorem ggX5_spark_X5_cells : GoodIn wsX5_spark wsX5_cells := goodIn_r _ [24, 9, 10, 3, 25, 26, 27, 7, 28, 18, 19, 20, 29, 30, 31, 32, 33, 34, 35, 36, 37, 38, 39, 40, 41, 42] (by decide +kernel) (by decide +kernel)
set_option maxRecDepth 20000 in
theorem gX5_spark_X5_cells : GoodIn wsX5_spark (wsV RX5 98 RX5 yX5_cells wsX5_cells) := goodIn_app (goodIn_of _ (by decide +kernel)) ggX5_spark_X5_cells
set_option maxRecDepth 20000 in
theorem ggX5_lamp_X5_isCell : GoodIn wsX5_lamp wsX5_isCell := goodIn_r _ [8, 9, 10, 11, 12, 7, 13, 21, 22, 23, 24, 25, 26, 27, 28, 29, 30, 31, 32, 33, 34] (by decide +kernel) (by decide +kernel)
set_option maxRecDepth 20000 in
theorem gX5_lamp_X5_isCell : GoodIn wsX5_lamp (wsV RX5 77 RX5 yX5_isCell wsX5_isCell) := goodIn_app (goodIn_of _ (by decide +kernel)) ggX5_lamp_X5_isCell
set_option maxRecDepth 20000 in
theorem ggX5_lamp_X5_fail : GoodIn wsX5_lamp wsX5_fail := goodIn_r _ [17, 1, 21, 22, 23, 24, 25, 26, 27, 28, 29, 30, 31, 32, 33, 34] (by decide +kernel) (by decide +kernel)
set_option maxRecDepth 20000 in
theorem gX5_lamp_X5_fail : GoodIn wsX5_lamp (wsV RX5 74 RX5 yX5_fail wsX5_fail) := goodIn_app (goodIn_of _ (by decide +kernel)) ggX5_lamp_X5_fail
set_option maxRecDepth 20000 in
theorem ggX5_lamp_X5_at : GoodIn wsX5_lamp wsX5_at := goodIn_r _ [20] (by decide +kernel) (by decide +kernel)
set_option maxRecDepth 20000 in
theorem gX5_lamp_X5_at : GoodIn wsX5_lamp (va_wsS RX5 48 yX5_at wsX5_at) := goodIn_app (goodIn_of _ (by decide +kernel)) ggX5_lamp_X5_at
set_option maxRecDepth 20000 in
theorem ggX5_pass_X5_isIn : GoodIn wsX5_pass wsX5_isIn := goodIn_r _ [7] (by decide +kernel) (by decide +kernel)
set_option maxRecDepth 20000 in
theorem gX5_pass_X5_isIn : GoodIn wsX5_pass (va_wsS RX5 44 yX5_isIn wsX5_isIn) := goodIn_app (goodIn_of _ (by decide +kernel)) ggX5_pass_X5_isIn
set_option maxRecDepth 20000 in
theorem ggX5_pass_X5_fail : GoodIn wsX5_pass wsX5_fail := goodIn_r _ [11, 1, 46, 47, 48, 49, 50, 51, 52, 53, 54, 55, 56, 57, 58, 59] (by decide +kernel) (by decide +kernel)
set_option maxRecDepth 20000 in
theorem gX5_pass_X5_fail : GoodIn wsX5_pass (wsV RX5 74 RX5 yX5_fail wsX5_fail) := goodIn_app (goodIn_of _ (by decide +kernel)) ggX5_pass_X5_fail
set_option maxRecDepth 20000 in
theorem ggX5_pass_X5_step : GoodIn wsX5_pass wsX5_step := goodIn_r _ [15, 16, 17, 18, 19, 20, 21, 22, 6, 23, 24, 25, 26, 27, 28, 29, 30, 31, 32, 33, 34, 35, 46, 47, 48, 49, 50, 51, 52, 53, 54, 55, 56, 57, 58, 59] (by decide +kernel) (by decide +kernel)
set_option maxRecDepth 20000 in
theorem gX5_pass_X5_step : GoodIn wsX5_pass (wsV RX5 101 RX5 yX5_step wsX5_step) := goodIn_app (goodIn_of _ (by decide +kernel)) ggX5_pass_X5_step
set_option maxRecDepth 20000 in
theorem ggX5_pass_X5_light : GoodIn wsX5_pass wsX5_light := goodIn_r _ [39, 40, 19, 41, 46, 47, 48, 49, 50, 51, 52, 53, 54, 55, 56, 57, 58, 59] (by decide +kernel) (by decide +kernel)
set_option maxRecDepth 20000 in
theorem gX5_pass_X5_light : GoodIn wsX5_pass (wsV RX5 107 RX5 yX5_light wsX5_light) := goodIn_app (goodIn_of _ (by decide +kernel)) ggX5_pass_X5_light
set_option maxRecDepth 20000 in
theorem ggX5_pass_X5_cells : GoodIn wsX5_pass wsX5_cells := goodIn_r _ [45, 16, 17, 19, 20, 21, 22, 6, 23, 24, 25, 26, 46, 47, 48, 49, 50, 51, 52, 53, 54, 55, 56, 57, 58, 59] (by decide +kernel) (by decide +kernel)
set_option maxRecDepth 20000 in
theorem gX5_pass_X5_cells : GoodIn wsX5_pass (wsV RX5 98 RX5 yX5_cells wsX5_cells) := goodIn_app (goodIn_of _ (by decide +kernel)) ggX5_pass_X5_cells
set_option maxRecDepth 20000 in
theorem ggX5_piece_X5_spread : GoodIn wsX5_piece wsX5_spread := goodIn_r _ [6, 7, 8, 9, 1, 10, 11, 12, 13, 14, 15, 16, 17, 18, 19, 20, 21, 22, 23] (by decide +kernel) (by decide +kernel)
set_option maxRecDepth 20000 in
theorem gX5_piece_X5_spread : GoodIn wsX5_piece (wsV RX5 114 RX5 yX5_spread wsX5_spread) := goodIn_app (goodIn_of _ (by decide +kernel)) ggX5_piece_X5_spread
set_option maxRecDepth 20000 in
theorem ggX5_cellTold_X5_around : GoodIn wsX5_cellTold wsX5_around := goodIn_r _ [6, 7, 1, 22, 23, 24, 25, 26, 27, 28, 29, 30, 31, 32, 33, 34, 35] (by decide +kernel) (by decide +kernel)
set_option maxRecDepth 20000 in
theorem gX5_cellTold_X5_around : GoodIn wsX5_cellTold (wsV RX5 55 RX5 yX5_around wsX5_around) := goodIn_app (goodIn_of _ (by decide +kernel)) ggX5_cellTold_X5_around
set_option maxRecDepth 20000 in
theorem ggX5_cellTold_X5_next : GoodIn wsX5_cellTold wsX5_next := goodIn_r _ [11, 1, 2, 3, 4, 5, 6, 7, 22, 23, 24, 25, 26, 27, 28, 29, 30, 31, 32, 33, 34, 35] (by decide +kernel) (by decide +kernel)
set_option maxRecDepth 20000 in
theorem gX5_cellTold_X5_next : GoodIn wsX5_cellTold (wsV RX5 62 RX5 yX5_next wsX5_next) := goodIn_app (goodIn_of _ (by decide +kernel)) ggX5_cellTold_X5_next
set_option maxRecDepth 20000 in
theorem ggX5_cellTold_X5_piece : GoodIn wsX5_cellTold wsX5_piece := goodIn_r _ [15, 1, 16, 17, 18, 5, 19, 20, 21, 7, 22, 23, 24, 25, 26, 27, 28, 29, 30, 31, 32, 33, 34, 35] (by decide +kernel) (by decide +kernel)
set_option maxRecDepth 20000 in
theorem gX5_cellTold_X5_piece : GoodIn wsX5_cellTold (wsV RX5 117 RX5 yX5_piece wsX5_piece) := goodIn_app (goodIn_of _ (by decide +kernel)) ggX5_cellTold_X5_piece
set_option maxRecDepth 20000 in
theorem ggX5_told_X5_isCell : GoodIn wsX5_told wsX5_isCell := goodIn_r _ [6, 7, 8, 9, 10, 5, 11, 43, 44, 45, 46, 47, 48, 49, 50, 51, 52, 53, 54, 55, 56] (by decide +kernel) (by decide +kernel)
set_option maxRecDepth 20000 in
theorem gX5_told_X5_isCell : GoodIn wsX5_told (wsV RX5 77 RX5 yX5_isCell wsX5_isCell) := goodIn_app (goodIn_of _ (by decide +kernel)) ggX5_told_X5_isCell
set_option maxRecDepth 20000 in
theorem ggX5_told_X5_isIn : GoodIn wsX5_told wsX5_isIn := goodIn_r _ [11] (by decide +kernel) (by decide +kernel)
set_option maxRecDepth 20000 in
theorem gX5_told_X5_isIn : GoodIn wsX5_told (va_wsS RX5 44 yX5_isIn wsX5_isIn) := goodIn_app (goodIn_of _ (by decide +kernel)) ggX5_told_X5_isIn
set_option maxRecDepth 20000 in
theorem ggX5_told_X5_at : GoodIn wsX5_told wsX5_at := goodIn_r _ [14] (by decide +kernel) (by decide +kernel)
set_option maxRecDepth 20000 in
theorem gX5_told_X5_at : GoodIn wsX5_told (va_wsS RX5 48 yX5_at wsX5_at) := goodIn_app (goodIn_of _ (by decide +kernel)) ggX5_told_X5_at
set_option maxRecDepth 20000 in
theorem ggX5_told_X5_cellTold : GoodIn wsX5_told wsX5_cellTold := goodIn_r _ [18, 19, 20, 21, 22, 5, 23, 24, 25, 26, 27, 28, 29, 30, 31, 32, 33, 34, 35, 36, 37, 38, 43, 44, 45, 46, 47, 48, 49, 50, 51, 52, 53, 54, 55, 56] (by decide +kernel) (by decide +kernel)
set_option maxRecDepth 20000 in
theorem gX5_told_X5_cellTold : GoodIn wsX5_told (wsV RX5 120 RX5 yX5_cellTold wsX5_cellTold) := goodIn_app (goodIn_of _ (by decide +kernel)) ggX5_told_X5_cellTold
set_option maxRecDepth 20000 in
theorem ggX5_told_X5_fail : GoodIn wsX5_told wsX5_fail := goodIn_r _ [42, 1, 43, 44, 45, 46, 47, 48, 49, 50, 51, 52, 53, 54, 55, 56] (by decide +kernel) (by decide +kernel)
set_option maxRecDepth 20000 in
theorem gX5_told_X5_fail : GoodIn wsX5_told (wsV RX5 74 RX5 yX5_fail wsX5_fail) := goodIn_app (goodIn_of _ (by decide +kernel)) ggX5_told_X5_fail
set_option maxRecDepth 20000 in
theorem ggX5_about_X5_isIn : GoodIn wsX5_about wsX5_isIn := goodIn_r _ [6] (by decide +kernel) (by decide +kernel)
set_option maxRecDepth 20000 in
theorem gX5_about_X5_isIn : GoodIn wsX5_about (va_wsS RX5 44 yX5_isIn wsX5_isIn) := goodIn_app (goodIn_of _ (by decide +kernel)) ggX5_about_X5_isIn
set_option maxRecDepth 20000 in
theorem ggX5_about_X5_lampTold : GoodIn wsX5_about wsX5_lampTold := goodIn_r _ [10, 11, 16, 17, 18, 19, 20, 21, 22, 23, 24, 25, 26, 27, 28, 29] (by decide +kernel) (by decide +kernel)
set_option maxRecDepth 20000 in
theorem gX5_about_X5_lampTold : GoodIn wsX5_about (wsV RX5 123 RX5 yX5_lampTold wsX5_lampTold) := goodIn_app (goodIn_of _ (by decide +kernel)) ggX5_about_X5_lampTold
set_option maxRecDepth 20000 in
theorem ggX5_about_X5_fail : GoodIn wsX5_about wsX5_fail := goodIn_r _ [15, 1, 16, 17, 18, 19, 20, 21, 22, 23, 24, 25, 26, 27, 28, 29] (by decide +kernel) (by decide +kernel)
set_option maxRecDepth 20000 in
theorem gX5_about_X5_fail : GoodIn wsX5_about (wsV RX5 74 RX5 yX5_fail wsX5_fail) := goodIn_app (goodIn_of _ (by decide +kernel)) ggX5_about_X5_fail
set_option maxRecDepth 20000 in
theorem ggX5_pieces_X5_cell : GoodIn wsX5_pieces wsX5_cell := goodIn_r _ [13, 1, 14, 15, 12, 16, 23, 24, 25, 26, 27, 28, 29, 30, 31, 32, 33, 34, 35, 36] (by decide +kernel) (by decide +kernel)
set_option maxRecDepth 20000 in
theorem gX5_pieces_X5_cell : GoodIn wsX5_pieces (wsV RX5 58 RX5 yX5_cell wsX5_cell) := goodIn_app (goodIn_of _ (by decide +kernel)) ggX5_pieces_X5_cell
set_option maxRecDepth 20000 in
theorem ggX5_pieces_X5_spread : GoodIn wsX5_pieces wsX5_spread := goodIn_r _ [20, 8, 21, 22, 3, 23, 24, 25, 26, 27, 28, 29, 30, 31, 32, 33, 34, 35, 36] (by decide +kernel) (by decide +kernel)
set_option maxRecDepth 20000 in
theorem gX5_pieces_X5_spread : GoodIn wsX5_pieces (wsV RX5 114 RX5 yX5_spread wsX5_spread) := goodIn_app (goodIn_of _ (by decide +kernel)) ggX5_pieces_X5_spread
set_option maxRecDepth 20000 in
theorem ggX5_counted_X5_cells : GoodIn wsX5_counted wsX5_cells := goodIn_r _ [9, 2, 3, 10, 11, 12, 13, 8, 14, 15, 16, 17, 38, 39, 40, 41, 42, 43, 44, 45, 46, 47, 48, 49, 50, 51] (by decide +kernel) (by decide +kernel)
set_option maxRecDepth 20000 in
theorem gX5_counted_X5_cells : GoodIn wsX5_counted (wsV RX5 98 RX5 yX5_cells wsX5_cells) := goodIn_app (goodIn_of _ (by decide +kernel)) ggX5_counted_X5_cells
set_option maxRecDepth 20000 in
theorem ggX5_counted_X5_pieces : GoodIn wsX5_counted wsX5_pieces := goodIn_r _ [21, 2, 3, 10, 22, 23, 24, 25, 26, 11, 12, 13, 8, 14, 15, 16, 17, 27, 28, 29, 30, 31, 32, 38, 39, 40, 41, 42, 43, 44, 45, 46, 47, 48, 49, 50, 51] (by decide +kernel) (by decide +kernel)
set_option maxRecDepth 20000 in
theorem gX5_counted_X5_pieces : GoodIn wsX5_counted (wsV RX5 129 RX5 yX5_pieces wsX5_pieces) := goodIn_app (goodIn_of _ (by decide +kernel)) ggX5_counted_X5_pieces
set_option maxRecDepth 20000 in
theorem ggX5_counted_X5_lit : GoodIn wsX5_counted wsX5_lit := goodIn_r _ [36, 4, 37, 38, 39, 40, 41, 42, 43, 44, 45, 46, 47, 48, 49, 50, 51] (by decide +kernel) (by decide +kernel)
set_option maxRecDepth 20000 in
theorem gX5_counted_X5_lit : GoodIn wsX5_counted (wsV RX5 133 RX5 yX5_lit wsX5_lit) := goodIn_app (goodIn_of _ (by decide +kernel)) ggX5_counted_X5_lit
set_option maxRecDepth 20000 in
theorem ggX5_count_X5_isIn : GoodIn wsX5_count wsX5_isIn := goodIn_r _ [5] (by decide +kernel) (by decide +kernel)
set_option maxRecDepth 20000 in
theorem gX5_count_X5_isIn : GoodIn wsX5_count (va_wsS RX5 44 yX5_isIn wsX5_isIn) := goodIn_app (goodIn_of _ (by decide +kernel)) ggX5_count_X5_isIn
set_option maxRecDepth 20000 in
theorem ggX5_count_X5_counted : GoodIn wsX5_count wsX5_counted := goodIn_r _ [9, 10, 11, 12, 13, 14, 15, 16, 4, 17, 18, 19, 20, 21, 22, 23, 24, 25, 26, 27, 28, 29, 30, 31, 32, 33, 34, 35, 36, 37, 38, 39, 40, 41, 42, 43, 44, 45, 50, 51, 52, 53, 54, 55, 56, 57, 58, 59, 60, 61, 62, 63] (by decide +kernel) (by decide +kernel)
set_option maxRecDepth 20000 in
theorem gX5_count_X5_counted : GoodIn wsX5_count (wsV RX5 137 RX5 yX5_counted wsX5_counted) := goodIn_app (goodIn_of _ (by decide +kernel)) ggX5_count_X5_counted
set_option maxRecDepth 20000 in
theorem ggX5_count_X5_fail : GoodIn wsX5_count wsX5_fail := goodIn_r _ [49, 1, 50, 51, 52, 53, 54, 55, 56, 57, 58, 59, 60, 61, 62, 63] (by decide +kernel) (by decide +kernel)
set_option maxRecDepth 20000 in
theorem gX5_count_X5_fail : GoodIn wsX5_count (wsV RX5 74 RX5 yX5_fail wsX5_fail) := goodIn_app (goodIn_of _ (by decide +kernel)) ggX5_count_X5_fail
set_option maxRecDepth 20000 in
theorem ggX5_way_X5_isCell : GoodIn wsX5_way wsX5_isCell := goodIn_r _ [8, 9, 10, 11, 12, 7, 13, 27, 28, 29, 30, 31, 32, 33, 34, 35, 36, 37, 38, 39, 40] (by decide +kernel) (by decide +kernel)
set_option maxRecDepth 20000 in
theorem gX5_way_X5_isCell : GoodIn wsX5_way (wsV RX5 77 RX5 yX5_isCell wsX5_isCell) := goodIn_app (goodIn_of _ (by decide +kernel)) ggX5_way_X5_isCell
set_option maxRecDepth 20000 in
theorem ggX5_way_X5_fail : GoodIn wsX5_way wsX5_fail := goodIn_r _ [17, 1, 27, 28, 29, 30, 31, 32, 33, 34, 35, 36, 37, 38, 39, 40] (by decide +kernel) (by decide +kernel)
set_option maxRecDepth 20000 in
theorem gX5_way_X5_fail : GoodIn wsX5_way (wsV RX5 74 RX5 yX5_fail wsX5_fail) := goodIn_app (goodIn_of _ (by decide +kernel)) ggX5_way_X5_fail
set_option maxRecDepth 20000 in
theorem ggX5_way_X5_at : GoodIn wsX5_way wsX5_at := goodIn_r _ [20] (by decide +kernel) (by decide +kernel)
set_option maxRecDepth 20000 in
theorem gX5_way_X5_at : GoodIn wsX5_way (va_wsS RX5 48 yX5_at wsX5_at) := goodIn_app (goodIn_of _ (by decide +kernel)) ggX5_way_X5_at
set_option maxRecDepth 20000 in
theorem ggX5_way_X5_spread : GoodIn wsX5_way wsX5_spread := goodIn_r _ [24, 3, 25, 26, 2, 27, 28, 29, 30, 31, 32, 33, 34, 35, 36, 37, 38, 39, 40] (by decide +kernel) (by decide +kernel)
set_option maxRecDepth 20000 in
theorem gX5_way_X5_spread : GoodIn wsX5_way (wsV RX5 114 RX5 yX5_spread wsX5_spread) := goodIn_app (goodIn_of _ (by decide +kernel)) ggX5_way_X5_spread
set_option maxRecDepth 20000 in
theorem ggX5_period_X5_isIn : GoodIn wsX5_period wsX5_isIn := goodIn_r _ [11] (by decide +kernel) (by decide +kernel)
set_option maxRecDepth 20000 in
theorem gX5_period_X5_isIn : GoodIn wsX5_period (va_wsS RX5 44 yX5_isIn wsX5_isIn) := goodIn_app (goodIn_of _ (by decide +kernel)) ggX5_period_X5_isIn
set_option maxRecDepth 20000 in
theorem ggX5_period_X5_fail : GoodIn wsX5_period wsX5_fail := goodIn_r _ [15, 1, 54, 55, 56, 57, 58, 59, 60, 61, 62, 63, 64, 65, 66, 67] (by decide +kernel) (by decide +kernel)
set_option maxRecDepth 20000 in
theorem gX5_period_X5_fail : GoodIn wsX5_period (wsV RX5 74 RX5 yX5_fail wsX5_fail) := goodIn_app (goodIn_of _ (by decide +kernel)) ggX5_period_X5_fail
set_option maxRecDepth 20000 in
theorem ggX5_period_X5_keep : GoodIn wsX5_period wsX5_keep := goodIn_r _ [19, 2, 20, 4, 5, 6, 7, 21, 22, 54, 55, 56, 57, 58, 59, 60, 61, 62, 63, 64, 65, 66, 67] (by decide +kernel) (by decide +kernel)
set_option maxRecDepth 20000 in
theorem gX5_period_X5_keep : GoodIn wsX5_period (wsV RX5 140 RX5 yX5_keep wsX5_keep) := goodIn_app (goodIn_of _ (by decide +kernel)) ggX5_period_X5_keep
set_option maxRecDepth 20000 in
theorem ggX5_period_X5_isAsIt : GoodIn wsX5_period wsX5_isAsIt := goodIn_r _ [26, 3, 2, 54, 55, 56, 57, 58, 59, 60, 61, 62, 63, 64, 65, 66, 67] (by decide +kernel) (by decide +kernel)
set_option maxRecDepth 20000 in
theorem gX5_period_X5_isAsIt : GoodIn wsX5_period (wsV RX5 143 RX5 yX5_isAsIt wsX5_isAsIt) := goodIn_app (goodIn_of _ (by decide +kernel)) ggX5_period_X5_isAsIt
set_option maxRecDepth 20000 in
theorem ggX5_period_X5_step : GoodIn wsX5_period wsX5_step := goodIn_r _ [30, 31, 32, 33, 2, 34, 35, 36, 10, 37, 38, 39, 40, 41, 42, 43, 44, 45, 46, 47, 48, 49, 54, 55, 56, 57, 58, 59, 60, 61, 62, 63, 64, 65, 66, 67] (by decide +kernel) (by decide +kernel)
set_option maxRecDepth 20000 in
theorem gX5_period_X5_step : GoodIn wsX5_period (wsV RX5 101 RX5 yX5_step wsX5_step) := goodIn_app (goodIn_of _ (by decide +kernel)) ggX5_period_X5_step
set_option maxRecDepth 20000 in
theorem ggX5_period_X5_bringBack : GoodIn wsX5_period wsX5_bringBack := goodIn_r _ [53, 20, 2, 4, 5, 6, 7, 22, 21, 54, 55, 56, 57, 58, 59, 60, 61, 62, 63, 64, 65, 66, 67] (by decide +kernel) (by decide +kernel)
set_option maxRecDepth 20000 in
theorem gX5_period_X5_bringBack : GoodIn wsX5_period (wsV RX5 147 RX5 yX5_bringBack wsX5_bringBack) := goodIn_app (goodIn_of _ (by decide +kernel)) ggX5_period_X5_bringBack
set_option maxRecDepth 20000 in
theorem ggX5_until_X5_isCell : GoodIn wsX5_until wsX5_isCell := goodIn_r _ [7, 8, 9, 10, 11, 6, 12, 53, 54, 55, 56, 57, 58, 59, 60, 61, 62, 63, 64, 65, 66] (by decide +kernel) (by decide +kernel)
set_option maxRecDepth 20000 in
theorem gX5_until_X5_isCell : GoodIn wsX5_until (wsV RX5 77 RX5 yX5_isCell wsX5_isCell) := goodIn_app (goodIn_of _ (by decide +kernel)) ggX5_until_X5_isCell
set_option maxRecDepth 20000 in
theorem ggX5_until_X5_fail : GoodIn wsX5_until wsX5_fail := goodIn_r _ [16, 1, 53, 54, 55, 56, 57, 58, 59, 60, 61, 62, 63, 64, 65, 66] (by decide +kernel) (by decide +kernel)
set_option maxRecDepth 20000 in
theorem gX5_until_X5_fail : GoodIn wsX5_until (wsV RX5 74 RX5 yX5_fail wsX5_fail) := goodIn_app (goodIn_of _ (by decide +kernel)) ggX5_until_X5_fail
set_option maxRecDepth 20000 in
theorem ggX5_until_X5_keep : GoodIn wsX5_until wsX5_keep := goodIn_r _ [20, 2, 21, 22, 23, 24, 25, 26, 27, 53, 54, 55, 56, 57, 58, 59, 60, 61, 62, 63, 64, 65, 66] (by decide +kernel) (by decide +kernel)
set_option maxRecDepth 20000 in
theorem gX5_until_X5_keep : GoodIn wsX5_until (wsV RX5 140 RX5 yX5_keep wsX5_keep) := goodIn_app (goodIn_of _ (by decide +kernel)) ggX5_until_X5_keep
set_option maxRecDepth 20000 in
theorem ggX5_until_X5_at : GoodIn wsX5_until wsX5_at := goodIn_r _ [30] (by decide +kernel) (by decide +kernel)
set_option maxRecDepth 20000 in
theorem gX5_until_X5_at : GoodIn wsX5_until (va_wsS RX5 48 yX5_at wsX5_at) := goodIn_app (goodIn_of _ (by decide +kernel)) ggX5_until_X5_at
set_option maxRecDepth 20000 in
theorem ggX5_until_X5_step : GoodIn wsX5_until wsX5_step := goodIn_r _ [34, 8, 9, 35, 2, 36, 37, 38, 6, 39, 28, 29, 30, 40, 41, 42, 43, 44, 45, 46, 47, 48, 53, 54, 55, 56, 57, 58, 59, 60, 61, 62, 63, 64, 65, 66] (by decide +kernel) (by decide +kernel)
set_option maxRecDepth 20000 in
theorem gX5_until_X5_step : GoodIn wsX5_until (wsV RX5 101 RX5 yX5_step wsX5_step) := goodIn_app (goodIn_of _ (by decide +kernel)) ggX5_until_X5_step
set_option maxRecDepth 20000 in
theorem ggX5_until_X5_bringBack : GoodIn wsX5_until wsX5_bringBack := goodIn_r _ [52, 21, 2, 22, 23, 24, 25, 27, 26, 53, 54, 55, 56, 57, 58, 59, 60, 61, 62, 63, 64, 65, 66] (by decide +kernel) (by decide +kernel)
set_option maxRecDepth 20000 in
theorem gX5_until_X5_bringBack : GoodIn wsX5_until (wsV RX5 147 RX5 yX5_bringBack wsX5_bringBack) := goodIn_app (goodIn_of _ (by decide +kernel)) ggX5_until_X5_bringBack
set_option maxRecDepth 20000 in
theorem ggX5_foresee_X5_isIn : GoodIn wsX5_foresee wsX5_isIn := goodIn_r _ [5] (by decide +kernel) (by decide +kernel)
set_option maxRecDepth 20000 in
theorem gX5_foresee_X5_isIn : GoodIn wsX5_foresee (va_wsS RX5 44 yX5_isIn wsX5_isIn) := goodIn_app (goodIn_of _ (by decide +kernel)) ggX5_foresee_X5_isIn
set_option maxRecDepth 20000 in
theorem ggX5_foresee_X5_fail : GoodIn wsX5_foresee wsX5_fail := goodIn_r _ [9, 1, 81, 82, 83, 84, 85, 86, 87, 88, 89, 90, 91, 92, 93, 94] (by decide +kernel) (by decide +kernel)
set_option maxRecDepth 20000 in
theorem gX5_foresee_X5_fail : GoodIn wsX5_foresee (wsV RX5 74 RX5 yX5_fail wsX5_fail) := goodIn_app (goodIn_of _ (by decide +kernel)) ggX5_foresee_X5_fail
set_option maxRecDepth 20000 in
theorem ggX5_foresee_X5_keep : GoodIn wsX5_foresee wsX5_keep := goodIn_r _ [13, 14, 15, 16, 17, 18, 19, 20, 21, 81, 82, 83, 84, 85, 86, 87, 88, 89, 90, 91, 92, 93, 94] (by decide +kernel) (by decide +kernel)
set_option maxRecDepth 20000 in
theorem gX5_foresee_X5_keep : GoodIn wsX5_foresee (wsV RX5 140 RX5 yX5_keep wsX5_keep) := goodIn_app (goodIn_of _ (by decide +kernel)) ggX5_foresee_X5_keep
set_option maxRecDepth 20000 in
theorem ggX5_foresee_X5_step : GoodIn wsX5_foresee wsX5_step := goodIn_r _ [25, 26, 27, 28, 14, 29, 30, 31, 4, 32, 33, 34, 35, 36, 37, 38, 39, 40, 41, 42, 43, 44, 81, 82, 83, 84, 85, 86, 87, 88, 89, 90, 91, 92, 93, 94] (by decide +kernel) (by decide +kernel)
set_option maxRecDepth 20000 in
theorem gX5_foresee_X5_step : GoodIn wsX5_foresee (wsV RX5 101 RX5 yX5_step wsX5_step) := goodIn_app (goodIn_of _ (by decide +kernel)) ggX5_foresee_X5_step
set_option maxRecDepth 20000 in
theorem ggX5_foresee_X5_light : GoodIn wsX5_foresee wsX5_light := goodIn_r _ [48, 49, 14, 20, 81, 82, 83, 84, 85, 86, 87, 88, 89, 90, 91, 92, 93, 94] (by decide +kernel) (by decide +kernel)
set_option maxRecDepth 20000 in
theorem gX5_foresee_X5_light : GoodIn wsX5_foresee (wsV RX5 107 RX5 yX5_light wsX5_light) := goodIn_app (goodIn_of _ (by decide +kernel)) ggX5_foresee_X5_light
set_option maxRecDepth 20000 in
theorem ggX5_foresee_X5_counted : GoodIn wsX5_foresee wsX5_counted := goodIn_r _ [53, 54, 26, 27, 49, 55, 56, 57, 4, 58, 14, 29, 30, 31, 32, 33, 34, 35, 59, 60, 61, 62, 63, 64, 65, 66, 67, 68, 69, 70, 71, 72, 44, 73, 74, 75, 76, 20, 81, 82, 83, 84, 85, 86, 87, 88, 89, 90, 91, 92, 93, 94] (by decide +kernel) (by decide +kernel)
set_option maxRecDepth 20000 in
theorem gX5_foresee_X5_counted : GoodIn wsX5_foresee (wsV RX5 137 RX5 yX5_counted wsX5_counted) := goodIn_app (goodIn_of _ (by decide +kernel)) ggX5_foresee_X5_counted
set_option maxRecDepth 20000 in
theorem ggX5_foresee_X5_bringBack : GoodIn wsX5_foresee wsX5_bringBack := goodIn_r _ [80, 15, 14, 16, 17, 18, 19, 21, 20, 81, 82, 83, 84, 85, 86, 87, 88, 89, 90, 91, 92, 93, 94] (by decide +kernel) (by decide +kernel)
set_option maxRecDepth 20000 in
theorem gX5_foresee_X5_bringBack : GoodIn wsX5_foresee (wsV RX5 147 RX5 yX5_bringBack wsX5_bringBack) := goodIn_app (goodIn_of _ (by decide +kernel)) ggX5_foresee_X5_bringBack
set_option maxRecDepth 20000 in
theorem ggX5_heads_X5_step : GoodIn wsX5_heads wsX5_step := goodIn_r _ [5, 6, 7, 8, 9, 10, 11, 12, 4, 13, 14, 15, 16, 17, 18, 19, 20, 21, 22, 23, 24, 25, 41, 42, 43, 44, 45, 46, 47, 48, 49, 50, 51, 52, 53, 54] (by decide +kernel) (by decide +kernel)
set_option maxRecDepth 20000 in
theorem gX5_heads_X5_step : GoodIn wsX5_heads (wsV RX5 101 RX5 yX5_step wsX5_step) := goodIn_app (goodIn_of _ (by decide +kernel)) ggX5_heads_X5_step
set_option maxRecDepth 20000 in
theorem ggX5_heads_X5_cells : GoodIn wsX5_heads wsX5_cells := goodIn_r _ [29, 6, 7, 9, 10, 11, 12, 4, 13, 14, 15, 16, 41, 42, 43, 44, 45, 46, 47, 48, 49, 50, 51, 52, 53, 54] (by decide +kernel) (by decide +kernel)
set_option maxRecDepth 20000 in
theorem gX5_heads_X5_cells : GoodIn wsX5_heads (wsV RX5 98 RX5 yX5_cells wsX5_cells) := goodIn_app (goodIn_of _ (by decide +kernel)) ggX5_heads_X5_cells
set_option maxRecDepth 20000 in
theorem ggX5_heads_X5_bringBack : GoodIn wsX5_heads wsX5_bringBack := goodIn_r _ [33, 34, 9, 35, 36, 37, 38, 39, 40, 41, 42, 43, 44, 45, 46, 47, 48, 49, 50, 51, 52, 53, 54] (by decide +kernel) (by decide +kernel)
set_option maxRecDepth 20000 in
theorem gX5_heads_X5_bringBack : GoodIn wsX5_heads (wsV RX5 147 RX5 yX5_bringBack wsX5_bringBack) := goodIn_app (goodIn_of _ (by decide +kernel)) ggX5_heads_X5_bringBack
set_option maxRecDepth 20000 in
theorem ggX5_advise_X5_isIn : GoodIn wsX5_advise wsX5_isIn := goodIn_r _ [8] (by decide +kernel) (by decide +kernel)
set_option maxRecDepth 20000 in
theorem gX5_advise_X5_isIn : GoodIn wsX5_advise (va_wsS RX5 44 yX5_isIn wsX5_isIn) := goodIn_app (goodIn_of _ (by decide +kernel)) ggX5_advise_X5_isIn
set_option maxRecDepth 20000 in
theorem ggX5_advise_X5_fail : GoodIn wsX5_advise wsX5_fail := goodIn_r _ [12, 1, 57, 58, 59, 60, 61, 62, 63, 64, 65, 66, 67, 68, 69, 70] (by decide +kernel) (by decide +kernel)
set_option maxRecDepth 20000 in
theorem gX5_advise_X5_fail : GoodIn wsX5_advise (wsV RX5 74 RX5 yX5_fail wsX5_fail) := goodIn_app (goodIn_of _ (by decide +kernel)) ggX5_advise_X5_fail
set_option maxRecDepth 20000 in
theorem ggX5_advise_X5_keep : GoodIn wsX5_advise wsX5_keep := goodIn_r _ [16, 4, 17, 18, 19, 20, 21, 22, 23, 57, 58, 59, 60, 61, 62, 63, 64, 65, 66, 67, 68, 69, 70] (by decide +kernel) (by decide +kernel)
set_option maxRecDepth 20000 in
theorem gX5_advise_X5_keep : GoodIn wsX5_advise (wsV RX5 140 RX5 yX5_keep wsX5_keep) := goodIn_app (goodIn_of _ (by decide +kernel)) ggX5_advise_X5_keep
set_option maxRecDepth 20000 in
theorem ggX5_advise_X5_heads : GoodIn wsX5_advise wsX5_heads := goodIn_r _ [27, 28, 29, 30, 7, 31, 2, 3, 32, 4, 33, 34, 35, 36, 37, 38, 39, 40, 41, 42, 43, 44, 45, 46, 47, 48, 49, 50, 51, 52, 53, 54, 55, 56, 17, 18, 19, 20, 21, 23, 22, 57, 58, 59, 60, 61, 62, 63, 64, 65, 66, 67, 68, 69, 70] (by decide +kernel) (by decide +kernel)
set_option maxRecDepth 20000 in
theorem gX5_advise_X5_heads : GoodIn wsX5_advise (wsV RX5 150 RX5 yX5_heads wsX5_heads) := goodIn_app (goodIn_of _ (by decide +kernel)) ggX5_advise_X5_heads
set_option maxRecDepth 20000 in
theorem ggX5_advise_X5_cell : GoodIn wsX5_advise wsX5_cell := goodIn_r _ [36, 2, 37, 38, 7, 39, 57, 58, 59, 60, 61, 62, 63, 64, 65, 66, 67, 68, 69, 70] (by decide +kernel) (by decide +kernel)
set_option maxRecDepth 20000 in
theorem gX5_advise_X5_cell : GoodIn wsX5_advise (wsV RX5 58 RX5 yX5_cell wsX5_cell) := goodIn_app (goodIn_of _ (by decide +kernel)) ggX5_advise_X5_cell
set_option maxRecDepth 20000 in
theorem ggX5_digest_X5_counted : GoodIn wsX5_digest wsX5_counted := goodIn_r _ [12, 13, 4, 5, 6, 14, 15, 16, 11, 17, 18, 19, 20, 21, 22, 23, 24, 25, 26, 27, 28, 29, 30, 31, 32, 33, 34, 35, 36, 37, 38, 39, 40, 41, 42, 43, 44, 45, 66, 67, 68, 69, 70, 71, 72, 73, 74, 75, 76, 77, 78, 79] (by decide +kernel) (by decide +kernel)
set_option maxRecDepth 20000 in
theorem gX5_digest_X5_counted : GoodIn wsX5_digest (wsV RX5 137 RX5 yX5_counted wsX5_counted) := goodIn_app (goodIn_of _ (by decide +kernel)) ggX5_digest_X5_counted
set_option maxRecDepth 20000 in
theorem ggX5_digest_X5_cell : GoodIn wsX5_digest wsX5_cell := goodIn_r _ [22, 4, 23, 24, 11, 25, 66, 67, 68, 69, 70, 71, 72, 73, 74, 75, 76, 77, 78, 79] (by decide +kernel) (by decide +kernel)
set_option maxRecDepth 20000 in
theorem gX5_digest_X5_cell : GoodIn wsX5_digest (wsV RX5 58 RX5 yX5_cell wsX5_cell) := goodIn_app (goodIn_of _ (by decide +kernel)) ggX5_digest_X5_cell
set_option maxRecDepth 20000 in
theorem ggX5_digest_X5_cellTold : GoodIn wsX5_digest wsX5_cellTold := goodIn_r _ [49, 18, 50, 51, 52, 11, 53, 40, 54, 55, 56, 57, 58, 59, 60, 61, 35, 36, 37, 38, 34, 39, 66, 67, 68, 69, 70, 71, 72, 73, 74, 75, 76, 77, 78, 79] (by decide +kernel) (by decide +kernel)
set_option maxRecDepth 20000 in
theorem gX5_digest_X5_cellTold : GoodIn wsX5_digest (wsV RX5 120 RX5 yX5_cellTold wsX5_cellTold) := goodIn_app (goodIn_of _ (by decide +kernel)) ggX5_digest_X5_cellTold
set_option maxRecDepth 20000 in
theorem ggX5_digest_X5_lampTold : GoodIn wsX5_digest wsX5_lampTold := goodIn_r _ [65, 45, 66, 67, 68, 69, 70, 71, 72, 73, 74, 75, 76, 77, 78, 79] (by decide +kernel) (by decide +kernel)
set_option maxRecDepth 20000 in
theorem gX5_digest_X5_lampTold : GoodIn wsX5_digest (wsV RX5 123 RX5 yX5_lampTold wsX5_lampTold) := goodIn_app (goodIn_of _ (by decide +kernel)) ggX5_digest_X5_lampTold
