theorem dX4_init_0 : decode cX4_init 0 = .ok (.aload_n 0, 1) := by decide +kernel
theorem dX4_init_1 : decode cX4_init 1 = .ok (.invokespecial 3, 3) := by decide +kernel
theorem dX4_init_4 : decode cX4_init 4 = .ok (.aload_n 0, 1) := by decide +kernel
theorem dX4_init_5 : decode cX4_init 5 = .ok (.new 9, 3) := by decide +kernel
theorem dX4_init_8 : decode cX4_init 8 = .ok (.dup, 1) := by decide +kernel
theorem dX4_init_9 : decode cX4_init 9 = .ok (.bipush 8, 2) := by decide +kernel
theorem dX4_init_11 : decode cX4_init 11 = .ok (.bipush 6, 2) := by decide +kernel
theorem dX4_init_13 : decode cX4_init 13 = .ok (.invokespecial 11, 3) := by decide +kernel
theorem dX4_init_16 : decode cX4_init 16 = .ok (.putfield 14, 3) := by decide +kernel
theorem dX4_init_19 : decode cX4_init 19 = .ok (.aload_n 0, 1) := by decide +kernel
theorem dX4_init_20 : decode cX4_init 20 = .ok (.new 9, 3) := by decide +kernel
theorem dX4_init_23 : decode cX4_init 23 = .ok (.dup, 1) := by decide +kernel
theorem dX4_init_24 : decode cX4_init 24 = .ok (.bipush 8, 2) := by decide +kernel
theorem dX4_init_26 : decode cX4_init 26 = .ok (.bipush 6, 2) := by decide +kernel
theorem dX4_init_28 : decode cX4_init 28 = .ok (.invokespecial 11, 3) := by decide +kernel
theorem dX4_init_31 : decode cX4_init 31 = .ok (.putfield 18, 3) := by decide +kernel
theorem dX4_init_34 : decode cX4_init 34 = .ok (.aload_n 0, 1) := by decide +kernel
theorem dX4_init_35 : decode cX4_init 35 = .ok (.new 21, 3) := by decide +kernel
theorem dX4_init_38 : decode cX4_init 38 = .ok (.dup, 1) := by decide +kernel
theorem dX4_init_39 : decode cX4_init 39 = .ok (.invokespecial 23, 3) := by decide +kernel
theorem dX4_init_42 : decode cX4_init 42 = .ok (.putfield 24, 3) := by decide +kernel
theorem dX4_init_45 : decode cX4_init 45 = .ok (.aload_n 0, 1) := by decide +kernel
theorem dX4_init_46 : decode cX4_init 46 = .ok (.new 28, 3) := by decide +kernel
theorem dX4_init_49 : decode cX4_init 49 = .ok (.dup, 1) := by decide +kernel
theorem dX4_init_50 : decode cX4_init 50 = .ok (.invokespecial 30, 3) := by decide +kernel
theorem dX4_init_53 : decode cX4_init 53 = .ok (.putfield 31, 3) := by decide +kernel
theorem dX4_init_56 : decode cX4_init 56 = .ok (.aload_n 0, 1) := by decide +kernel
theorem dX4_init_57 : decode cX4_init 57 = .ok (.new 35, 3) := by decide +kernel
theorem dX4_init_60 : decode cX4_init 60 = .ok (.dup, 1) := by decide +kernel
theorem dX4_init_61 : decode cX4_init 61 = .ok (.invokespecial 37, 3) := by decide +kernel
theorem dX4_init_64 : decode cX4_init 64 = .ok (.putfield 38, 3) := by decide +kernel
theorem dX4_init_67 : decode cX4_init 67 = .ok (.aload_n 0, 1) := by decide +kernel
theorem dX4_init_68 : decode cX4_init 68 = .ok (.iconst 0, 1) := by decide +kernel
theorem dX4_init_69 : decode cX4_init 69 = .ok (.putfield 42, 3) := by decide +kernel
theorem dX4_init_72 : decode cX4_init 72 = .ok (.aload_n 0, 1) := by decide +kernel
theorem dX4_init_73 : decode cX4_init 73 = .ok (.lconst 0, 1) := by decide +kernel
theorem dX4_init_74 : decode cX4_init 74 = .ok (.putfield 46, 3) := by decide +kernel
theorem dX4_init_77 : decode cX4_init 77 = .ok (.return_, 1) := by decide +kernel
theorem dX4_setBoard_0 : decode cX4_setBoard 0 = .ok (.iload_n 1, 1) := by decide +kernel
theorem dX4_setBoard_1 : decode cX4_setBoard 1 = .ok (.invokestatic 50, 3) := by decide +kernel
theorem dX4_setBoard_4 : decode cX4_setBoard 4 = .ok (.ifCond .eq 10, 3) := by decide +kernel
theorem dX4_setBoard_7 : decode cX4_setBoard 7 = .ok (.iload_n 2, 1) := by decide +kernel
theorem dX4_setBoard_8 : decode cX4_setBoard 8 = .ok (.invokestatic 50, 3) := by decide +kernel
theorem dX4_setBoard_11 : decode cX4_setBoard 11 = .ok (.ifCond .ne 13, 3) := by decide +kernel
theorem dX4_setBoard_14 : decode cX4_setBoard 14 = .ok (.new 54, 3) := by decide +kernel
theorem dX4_setBoard_17 : decode cX4_setBoard 17 = .ok (.dup, 1) := by decide +kernel
theorem dX4_setBoard_18 : decode cX4_setBoard 18 = .ok (.ldc 56, 2) := by decide +kernel
theorem dX4_setBoard_20 : decode cX4_setBoard 20 = .ok (.invokespecial 58, 3) := by decide +kernel
theorem dX4_setBoard_23 : decode cX4_setBoard 23 = .ok (.athrow, 1) := by decide +kernel
theorem dX4_setBoard_24 : decode cX4_setBoard 24 = .ok (.aload_n 0, 1) := by decide +kernel
theorem dX4_setBoard_25 : decode cX4_setBoard 25 = .ok (.getfield 14, 3) := by decide +kernel
theorem dX4_setBoard_28 : decode cX4_setBoard 28 = .ok (.iload_n 1, 1) := by decide +kernel
theorem dX4_setBoard_29 : decode cX4_setBoard 29 = .ok (.iload_n 2, 1) := by decide +kernel
theorem dX4_setBoard_30 : decode cX4_setBoard 30 = .ok (.invokevirtual 61, 3) := by decide +kernel
theorem dX4_setBoard_33 : decode cX4_setBoard 33 = .ok (.aload_n 0, 1) := by decide +kernel
theorem dX4_setBoard_34 : decode cX4_setBoard 34 = .ok (.getfield 31, 3) := by decide +kernel
theorem dX4_setBoard_37 : decode cX4_setBoard 37 = .ok (.invokevirtual 64, 3) := by decide +kernel
theorem dX4_setBoard_40 : decode cX4_setBoard 40 = .ok (.aload_n 0, 1) := by decide +kernel
theorem dX4_setBoard_41 : decode cX4_setBoard 41 = .ok (.getfield 14, 3) := by decide +kernel
theorem dX4_setBoard_44 : decode cX4_setBoard 44 = .ok (.invokevirtual 66, 3) := by decide +kernel
theorem dX4_setBoard_47 : decode cX4_setBoard 47 = .ok (.ireturn, 1) := by decide +kernel
theorem dX4_set_0 : decode cX4_set 0 = .ok (.aload_n 0, 1) := by decide +kernel
theorem dX4_set_1 : decode cX4_set 1 = .ok (.getfield 14, 3) := by decide +kernel
theorem dX4_set_4 : decode cX4_set 4 = .ok (.iload_n 1, 1) := by decide +kernel
theorem dX4_set_5 : decode cX4_set 5 = .ok (.iload_n 2, 1) := by decide +kernel
theorem dX4_set_6 : decode cX4_set 6 = .ok (.invokevirtual 70, 3) := by decide +kernel
theorem dX4_set_9 : decode cX4_set 9 = .ok (.istore 4, 2) := by decide +kernel
theorem dX4_set_11 : decode cX4_set 11 = .ok (.iload 4, 2) := by decide +kernel
theorem dX4_set_13 : decode cX4_set 13 = .ok (.iconst (-1), 1) := by decide +kernel
theorem dX4_set_14 : decode cX4_set 14 = .ok (.if_icmp .ne 13, 3) := by decide +kernel
theorem dX4_set_17 : decode cX4_set 17 = .ok (.new 74, 3) := by decide +kernel
theorem dX4_set_20 : decode cX4_set 20 = .ok (.dup, 1) := by decide +kernel
theorem dX4_set_21 : decode cX4_set 21 = .ok (.ldc 76, 2) := by decide +kernel
theorem dX4_set_23 : decode cX4_set 23 = .ok (.invokespecial 78, 3) := by decide +kernel
theorem dX4_set_26 : decode cX4_set 26 = .ok (.athrow, 1) := by decide +kernel
theorem dX4_set_27 : decode cX4_set 27 = .ok (.iload_n 3, 1) := by decide +kernel
theorem dX4_set_28 : decode cX4_set 28 = .ok (.ifCond .lt 8, 3) := by decide +kernel
theorem dX4_set_31 : decode cX4_set 31 = .ok (.iload_n 3, 1) := by decide +kernel
theorem dX4_set_32 : decode cX4_set 32 = .ok (.iconst 3, 1) := by decide +kernel
theorem dX4_set_33 : decode cX4_set 33 = .ok (.if_icmp .le 13, 3) := by decide +kernel
theorem dX4_set_36 : decode cX4_set 36 = .ok (.new 54, 3) := by decide +kernel
theorem dX4_set_39 : decode cX4_set 39 = .ok (.dup, 1) := by decide +kernel
theorem dX4_set_40 : decode cX4_set 40 = .ok (.ldc 79, 2) := by decide +kernel
theorem dX4_set_42 : decode cX4_set 42 = .ok (.invokespecial 58, 3) := by decide +kernel
theorem dX4_set_45 : decode cX4_set 45 = .ok (.athrow, 1) := by decide +kernel
theorem dX4_set_46 : decode cX4_set 46 = .ok (.aload_n 0, 1) := by decide +kernel
theorem dX4_set_47 : decode cX4_set 47 = .ok (.getfield 14, 3) := by decide +kernel
theorem dX4_set_50 : decode cX4_set 50 = .ok (.iload 4, 2) := by decide +kernel
theorem dX4_set_52 : decode cX4_set 52 = .ok (.invokevirtual 81, 3) := by decide +kernel
theorem dX4_set_55 : decode cX4_set 55 = .ok (.istore 5, 2) := by decide +kernel
theorem dX4_set_57 : decode cX4_set 57 = .ok (.aload_n 0, 1) := by decide +kernel
theorem dX4_set_58 : decode cX4_set 58 = .ok (.getfield 14, 3) := by decide +kernel
theorem dX4_set_61 : decode cX4_set 61 = .ok (.iload 4, 2) := by decide +kernel
theorem dX4_set_63 : decode cX4_set 63 = .ok (.iload_n 3, 1) := by decide +kernel
theorem dX4_set_64 : decode cX4_set 64 = .ok (.invokevirtual 85, 3) := by decide +kernel
theorem dX4_set_67 : decode cX4_set 67 = .ok (.iload 5, 2) := by decide +kernel
theorem dX4_set_69 : decode cX4_set 69 = .ok (.ireturn, 1) := by decide +kernel
theorem dX4_line_0 : decode cX4_line 0 = .ok (.aload_n 0, 1) := by decide +kernel
theorem dX4_line_1 : decode cX4_line 1 = .ok (.getfield 14, 3) := by decide +kernel
theorem dX4_line_4 : decode cX4_line 4 = .ok (.iload_n 1, 1) := by decide +kernel
theorem dX4_line_5 : decode cX4_line 5 = .ok (.iload_n 2, 1) := by decide +kernel
theorem dX4_line_6 : decode cX4_line 6 = .ok (.invokevirtual 70, 3) := by decide +kernel
theorem dX4_line_9 : decode cX4_line 9 = .ok (.iconst (-1), 1) := by decide +kernel
theorem dX4_line_10 : decode cX4_line 10 = .ok (.if_icmp .eq 17, 3) := by decide +kernel
theorem dX4_line_13 : decode cX4_line 13 = .ok (.aload_n 0, 1) := by decide +kernel
theorem dX4_line_14 : decode cX4_line 14 = .ok (.getfield 14, 3) := by decide +kernel
theorem dX4_line_17 : decode cX4_line 17 = .ok (.iload_n 3, 1) := by decide +kernel
theorem dX4_line_18 : decode cX4_line 18 = .ok (.iload 4, 2) := by decide +kernel
theorem dX4_line_20 : decode cX4_line 20 = .ok (.invokevirtual 70, 3) := by decide +kernel
theorem dX4_line_23 : decode cX4_line 23 = .ok (.iconst (-1), 1) := by decide +kernel
theorem dX4_line_24 : decode cX4_line 24 = .ok (.if_icmp .ne 13, 3) := by decide +kernel
theorem dX4_line_27 : decode cX4_line 27 = .ok (.new 74, 3) := by decide +kernel
theorem dX4_line_30 : decode cX4_line 30 = .ok (.dup, 1) := by decide +kernel
theorem dX4_line_31 : decode cX4_line 31 = .ok (.ldc 76, 2) := by decide +kernel
theorem dX4_line_33 : decode cX4_line 33 = .ok (.invokespecial 78, 3) := by decide +kernel
theorem dX4_line_36 : decode cX4_line 36 = .ok (.athrow, 1) := by decide +kernel
theorem dX4_line_37 : decode cX4_line 37 = .ok (.iload_n 3, 1) := by decide +kernel
theorem dX4_line_38 : decode cX4_line 38 = .ok (.iload_n 1, 1) := by decide +kernel
theorem dX4_line_39 : decode cX4_line 39 = .ok (.isub, 1) := by decide +kernel
theorem dX4_line_40 : decode cX4_line 40 = .ok (.invokestatic 88, 3) := by decide +kernel
theorem dX4_line_43 : decode cX4_line 43 = .ok (.istore 5, 2) := by decide +kernel
theorem dX4_line_45 : decode cX4_line 45 = .ok (.iload 4, 2) := by decide +kernel
theorem dX4_line_47 : decode cX4_line 47 = .ok (.iload_n 2, 1) := by decide +kernel
theorem dX4_line_48 : decode cX4_line 48 = .ok (.isub, 1) := by decide +kernel
theorem dX4_line_49 : decode cX4_line 49 = .ok (.invokestatic 88, 3) := by decide +kernel
theorem dX4_line_52 : decode cX4_line 52 = .ok (.istore 6, 2) := by decide +kernel
theorem dX4_line_54 : decode cX4_line 54 = .ok (.iload 5, 2) := by decide +kernel
theorem dX4_line_56 : decode cX4_line 56 = .ok (.ifCond .eq 25, 3) := by decide +kernel
theorem dX4_line_59 : decode cX4_line 59 = .ok (.iload 6, 2) := by decide +kernel
theorem dX4_line_61 : decode cX4_line 61 = .ok (.ifCond .eq 20, 3) := by decide +kernel
theorem dX4_line_64 : decode cX4_line 64 = .ok (.iload 5, 2) := by decide +kernel
theorem dX4_line_66 : decode cX4_line 66 = .ok (.iload 6, 2) := by decide +kernel
theorem dX4_line_68 : decode cX4_line 68 = .ok (.if_icmp .eq 13, 3) := by decide +kernel
theorem dX4_line_71 : decode cX4_line 71 = .ok (.new 54, 3) := by decide +kernel
theorem dX4_line_74 : decode cX4_line 74 = .ok (.dup, 1) := by decide +kernel
theorem dX4_line_75 : decode cX4_line 75 = .ok (.ldc 93, 2) := by decide +kernel
theorem dX4_line_77 : decode cX4_line 77 = .ok (.invokespecial 58, 3) := by decide +kernel
theorem dX4_line_80 : decode cX4_line 80 = .ok (.athrow, 1) := by decide +kernel
theorem dX4_line_81 : decode cX4_line 81 = .ok (.iload_n 3, 1) := by decide +kernel
theorem dX4_line_82 : decode cX4_line 82 = .ok (.iload_n 1, 1) := by decide +kernel
theorem dX4_line_83 : decode cX4_line 83 = .ok (.invokestatic 95, 3) := by decide +kernel
theorem dX4_line_86 : decode cX4_line 86 = .ok (.istore 7, 2) := by decide +kernel
theorem dX4_line_88 : decode cX4_line 88 = .ok (.iload 4, 2) := by decide +kernel
theorem dX4_line_90 : decode cX4_line 90 = .ok (.iload_n 2, 1) := by decide +kernel
theorem dX4_line_91 : decode cX4_line 91 = .ok (.invokestatic 95, 3) := by decide +kernel
theorem dX4_line_94 : decode cX4_line 94 = .ok (.istore 8, 2) := by decide +kernel
theorem dX4_line_96 : decode cX4_line 96 = .ok (.iload 5, 2) := by decide +kernel
theorem dX4_line_98 : decode cX4_line 98 = .ok (.iload 6, 2) := by decide +kernel
theorem dX4_line_100 : decode cX4_line 100 = .ok (.invokestatic 100, 3) := by decide +kernel
theorem dX4_line_103 : decode cX4_line 103 = .ok (.istore 9, 2) := by decide +kernel
theorem dX4_line_105 : decode cX4_line 105 = .ok (.iconst 0, 1) := by decide +kernel
theorem dX4_line_106 : decode cX4_line 106 = .ok (.istore 10, 2) := by decide +kernel
theorem dX4_line_108 : decode cX4_line 108 = .ok (.iconst 0, 1) := by decide +kernel
theorem dX4_line_109 : decode cX4_line 109 = .ok (.istore 11, 2) := by decide +kernel
theorem dX4_line_111 : decode cX4_line 111 = .ok (.iload 11, 2) := by decide +kernel
theorem dX4_line_113 : decode cX4_line 113 = .ok (.iload 9, 2) := by decide +kernel
theorem dX4_line_115 : decode cX4_line 115 = .ok (.if_icmp .gt 32, 3) := by decide +kernel
theorem dX4_line_118 : decode cX4_line 118 = .ok (.iload 10, 2) := by decide +kernel
theorem dX4_line_120 : decode cX4_line 120 = .ok (.aload_n 0, 1) := by decide +kernel
theorem dX4_line_121 : decode cX4_line 121 = .ok (.iload_n 1, 1) := by decide +kernel
theorem dX4_line_122 : decode cX4_line 122 = .ok (.iload 11, 2) := by decide +kernel
theorem dX4_line_124 : decode cX4_line 124 = .ok (.iload 7, 2) := by decide +kernel
theorem dX4_line_126 : decode cX4_line 126 = .ok (.imul, 1) := by decide +kernel
theorem dX4_line_127 : decode cX4_line 127 = .ok (.iadd, 1) := by decide +kernel
theorem dX4_line_128 : decode cX4_line 128 = .ok (.iload_n 2, 1) := by decide +kernel
theorem dX4_line_129 : decode cX4_line 129 = .ok (.iload 11, 2) := by decide +kernel
theorem dX4_line_131 : decode cX4_line 131 = .ok (.iload 8, 2) := by decide +kernel
theorem dX4_line_133 : decode cX4_line 133 = .ok (.imul, 1) := by decide +kernel
theorem dX4_line_134 : decode cX4_line 134 = .ok (.iadd, 1) := by decide +kernel
theorem dX4_line_135 : decode cX4_line 135 = .ok (.invokevirtual 103, 3) := by decide +kernel
theorem dX4_line_138 : decode cX4_line 138 = .ok (.iadd, 1) := by decide +kernel
theorem dX4_line_139 : decode cX4_line 139 = .ok (.istore 10, 2) := by decide +kernel
theorem dX4_line_141 : decode cX4_line 141 = .ok (.iinc 11 1, 3) := by decide +kernel
theorem dX4_line_144 : decode cX4_line 144 = .ok (.goto (-33), 3) := by decide +kernel
theorem dX4_line_147 : decode cX4_line 147 = .ok (.iload 10, 2) := by decide +kernel
theorem dX4_line_149 : decode cX4_line 149 = .ok (.ireturn, 1) := by decide +kernel
theorem dX4_ring_0 : decode cX4_ring 0 = .ok (.iload_n 3, 1) := by decide +kernel
theorem dX4_ring_1 : decode cX4_ring 1 = .ok (.iconst 3, 1) := by decide +kernel
theorem dX4_ring_2 : decode cX4_ring 2 = .ok (.if_icmp .lt 9, 3) := by decide +kernel
theorem dX4_ring_5 : decode cX4_ring 5 = .ok (.iload 4, 2) := by decide +kernel
theorem dX4_ring_7 : decode cX4_ring 7 = .ok (.iconst 3, 1) := by decide +kernel
theorem dX4_ring_8 : decode cX4_ring 8 = .ok (.if_icmp .ge 13, 3) := by decide +kernel
theorem dX4_ring_11 : decode cX4_ring 11 = .ok (.new 54, 3) := by decide +kernel
theorem dX4_ring_14 : decode cX4_ring 14 = .ok (.dup, 1) := by decide +kernel
theorem dX4_ring_15 : decode cX4_ring 15 = .ok (.ldc 106, 2) := by decide +kernel
theorem dX4_ring_17 : decode cX4_ring 17 = .ok (.invokespecial 58, 3) := by decide +kernel
theorem dX4_ring_20 : decode cX4_ring 20 = .ok (.athrow, 1) := by decide +kernel
theorem dX4_ring_21 : decode cX4_ring 21 = .ok (.aload_n 0, 1) := by decide +kernel
theorem dX4_ring_22 : decode cX4_ring 22 = .ok (.getfield 14, 3) := by decide +kernel
theorem dX4_ring_25 : decode cX4_ring 25 = .ok (.iload_n 1, 1) := by decide +kernel
theorem dX4_ring_26 : decode cX4_ring 26 = .ok (.iload_n 2, 1) := by decide +kernel
theorem dX4_ring_27 : decode cX4_ring 27 = .ok (.iload_n 3, 1) := by decide +kernel
theorem dX4_ring_28 : decode cX4_ring 28 = .ok (.iload 4, 2) := by decide +kernel
theorem dX4_ring_30 : decode cX4_ring 30 = .ok (.invokevirtual 108, 3) := by decide +kernel
theorem dX4_ring_33 : decode cX4_ring 33 = .ok (.ifCond .ne 13, 3) := by decide +kernel
theorem dX4_ring_36 : decode cX4_ring 36 = .ok (.new 74, 3) := by decide +kernel
theorem dX4_ring_39 : decode cX4_ring 39 = .ok (.dup, 1) := by decide +kernel
theorem dX4_ring_40 : decode cX4_ring 40 = .ok (.ldc 112, 2) := by decide +kernel
theorem dX4_ring_42 : decode cX4_ring 42 = .ok (.invokespecial 78, 3) := by decide +kernel
theorem dX4_ring_45 : decode cX4_ring 45 = .ok (.athrow, 1) := by decide +kernel
theorem dX4_ring_46 : decode cX4_ring 46 = .ok (.iconst 0, 1) := by decide +kernel
theorem dX4_ring_47 : decode cX4_ring 47 = .ok (.istore 5, 2) := by decide +kernel
theorem dX4_ring_49 : decode cX4_ring 49 = .ok (.iconst 1, 1) := by decide +kernel
theorem dX4_ring_50 : decode cX4_ring 50 = .ok (.istore 6, 2) := by decide +kernel
theorem dX4_ring_52 : decode cX4_ring 52 = .ok (.iload 6, 2) := by decide +kernel
theorem dX4_ring_54 : decode cX4_ring 54 = .ok (.iload_n 3, 1) := by decide +kernel
theorem dX4_ring_55 : decode cX4_ring 55 = .ok (.iconst 1, 1) := by decide +kernel
theorem dX4_ring_56 : decode cX4_ring 56 = .ok (.isub, 1) := by decide +kernel
theorem dX4_ring_57 : decode cX4_ring 57 = .ok (.if_icmp .ge 38, 3) := by decide +kernel
theorem dX4_ring_60 : decode cX4_ring 60 = .ok (.iload 5, 2) := by decide +kernel
theorem dX4_ring_62 : decode cX4_ring 62 = .ok (.aload_n 0, 1) := by decide +kernel
theorem dX4_ring_63 : decode cX4_ring 63 = .ok (.iload_n 1, 1) := by decide +kernel
theorem dX4_ring_64 : decode cX4_ring 64 = .ok (.iload 6, 2) := by decide +kernel
theorem dX4_ring_66 : decode cX4_ring 66 = .ok (.iadd, 1) := by decide +kernel
theorem dX4_ring_67 : decode cX4_ring 67 = .ok (.iload_n 2, 1) := by decide +kernel
theorem dX4_ring_68 : decode cX4_ring 68 = .ok (.invokevirtual 103, 3) := by decide +kernel
theorem dX4_ring_71 : decode cX4_ring 71 = .ok (.aload_n 0, 1) := by decide +kernel
theorem dX4_ring_72 : decode cX4_ring 72 = .ok (.iload_n 1, 1) := by decide +kernel
theorem dX4_ring_73 : decode cX4_ring 73 = .ok (.iload 6, 2) := by decide +kernel
theorem dX4_ring_75 : decode cX4_ring 75 = .ok (.iadd, 1) := by decide +kernel
theorem dX4_ring_76 : decode cX4_ring 76 = .ok (.iload_n 2, 1) := by decide +kernel
theorem dX4_ring_77 : decode cX4_ring 77 = .ok (.iload 4, 2) := by decide +kernel
theorem dX4_ring_79 : decode cX4_ring 79 = .ok (.iadd, 1) := by decide +kernel
theorem dX4_ring_80 : decode cX4_ring 80 = .ok (.iconst 1, 1) := by decide +kernel
theorem dX4_ring_81 : decode cX4_ring 81 = .ok (.isub, 1) := by decide +kernel
theorem dX4_ring_82 : decode cX4_ring 82 = .ok (.invokevirtual 103, 3) := by decide +kernel
theorem dX4_ring_85 : decode cX4_ring 85 = .ok (.iadd, 1) := by decide +kernel
theorem dX4_ring_86 : decode cX4_ring 86 = .ok (.iadd, 1) := by decide +kernel
theorem dX4_ring_87 : decode cX4_ring 87 = .ok (.istore 5, 2) := by decide +kernel
theorem dX4_ring_89 : decode cX4_ring 89 = .ok (.iinc 6 1, 3) := by decide +kernel
theorem dX4_ring_92 : decode cX4_ring 92 = .ok (.goto (-40), 3) := by decide +kernel
theorem dX4_ring_95 : decode cX4_ring 95 = .ok (.iconst 1, 1) := by decide +kernel
theorem dX4_ring_96 : decode cX4_ring 96 = .ok (.istore 6, 2) := by decide +kernel
theorem dX4_ring_98 : decode cX4_ring 98 = .ok (.iload 6, 2) := by decide +kernel
theorem dX4_ring_100 : decode cX4_ring 100 = .ok (.iload 4, 2) := by decide +kernel
theorem dX4_ring_102 : decode cX4_ring 102 = .ok (.iconst 1, 1) := by decide +kernel
theorem dX4_ring_103 : decode cX4_ring 103 = .ok (.isub, 1) := by decide +kernel
theorem dX4_ring_104 : decode cX4_ring 104 = .ok (.if_icmp .ge 37, 3) := by decide +kernel
theorem dX4_ring_107 : decode cX4_ring 107 = .ok (.iload 5, 2) := by decide +kernel
theorem dX4_ring_109 : decode cX4_ring 109 = .ok (.aload_n 0, 1) := by decide +kernel
theorem dX4_ring_110 : decode cX4_ring 110 = .ok (.iload_n 1, 1) := by decide +kernel
theorem dX4_ring_111 : decode cX4_ring 111 = .ok (.iload_n 2, 1) := by decide +kernel
theorem dX4_ring_112 : decode cX4_ring 112 = .ok (.iload 6, 2) := by decide +kernel
theorem dX4_ring_114 : decode cX4_ring 114 = .ok (.iadd, 1) := by decide +kernel
theorem dX4_ring_115 : decode cX4_ring 115 = .ok (.invokevirtual 103, 3) := by decide +kernel
theorem dX4_ring_118 : decode cX4_ring 118 = .ok (.aload_n 0, 1) := by decide +kernel
theorem dX4_ring_119 : decode cX4_ring 119 = .ok (.iload_n 1, 1) := by decide +kernel
theorem dX4_ring_120 : decode cX4_ring 120 = .ok (.iload_n 3, 1) := by decide +kernel
theorem dX4_ring_121 : decode cX4_ring 121 = .ok (.iadd, 1) := by decide +kernel
theorem dX4_ring_122 : decode cX4_ring 122 = .ok (.iconst 1, 1) := by decide +kernel
theorem dX4_ring_123 : decode cX4_ring 123 = .ok (.isub, 1) := by decide +kernel
theorem dX4_ring_124 : decode cX4_ring 124 = .ok (.iload_n 2, 1) := by decide +kernel
theorem dX4_ring_125 : decode cX4_ring 125 = .ok (.iload 6, 2) := by decide +kernel
theorem dX4_ring_127 : decode cX4_ring 127 = .ok (.iadd, 1) := by decide +kernel
theorem dX4_ring_128 : decode cX4_ring 128 = .ok (.invokevirtual 103, 3) := by decide +kernel
theorem dX4_ring_131 : decode cX4_ring 131 = .ok (.iadd, 1) := by decide +kernel
theorem dX4_ring_132 : decode cX4_ring 132 = .ok (.iadd, 1) := by decide +kernel
theorem dX4_ring_133 : decode cX4_ring 133 = .ok (.istore 5, 2) := by decide +kernel
theorem dX4_ring_135 : decode cX4_ring 135 = .ok (.iinc 6 1, 3) := by decide +kernel
theorem dX4_ring_138 : decode cX4_ring 138 = .ok (.goto (-40), 3) := by decide +kernel
theorem dX4_ring_141 : decode cX4_ring 141 = .ok (.iload 5, 2) := by decide +kernel
theorem dX4_ring_143 : decode cX4_ring 143 = .ok (.ireturn, 1) := by decide +kernel
theorem dX4_stamp_0 : decode cX4_stamp 0 = .ok (.iload_n 1, 1) := by decide +kernel
theorem dX4_stamp_1 : decode cX4_stamp 1 = .ok (.ifCond .lt 17, 3) := by decide +kernel
theorem dX4_stamp_4 : decode cX4_stamp 4 = .ok (.iload_n 1, 1) := by decide +kernel
theorem dX4_stamp_5 : decode cX4_stamp 5 = .ok (.iconst 4, 1) := by decide +kernel
theorem dX4_stamp_6 : decode cX4_stamp 6 = .ok (.if_icmp .ge 12, 3) := by decide +kernel
theorem dX4_stamp_9 : decode cX4_stamp 9 = .ok (.iload_n 2, 1) := by decide +kernel
theorem dX4_stamp_10 : decode cX4_stamp 10 = .ok (.ifCond .lt 8, 3) := by decide +kernel
theorem dX4_stamp_13 : decode cX4_stamp 13 = .ok (.iload_n 2, 1) := by decide +kernel
theorem dX4_stamp_14 : decode cX4_stamp 14 = .ok (.iconst 4, 1) := by decide +kernel
theorem dX4_stamp_15 : decode cX4_stamp 15 = .ok (.if_icmp .lt 13, 3) := by decide +kernel
theorem dX4_stamp_18 : decode cX4_stamp 18 = .ok (.new 74, 3) := by decide +kernel
theorem dX4_stamp_21 : decode cX4_stamp 21 = .ok (.dup, 1) := by decide +kernel
theorem dX4_stamp_22 : decode cX4_stamp 22 = .ok (.ldc 114, 2) := by decide +kernel
theorem dX4_stamp_24 : decode cX4_stamp 24 = .ok (.invokespecial 78, 3) := by decide +kernel
theorem dX4_stamp_27 : decode cX4_stamp 27 = .ok (.athrow, 1) := by decide +kernel
theorem dX4_stamp_28 : decode cX4_stamp 28 = .ok (.aload_n 0, 1) := by decide +kernel
theorem dX4_stamp_29 : decode cX4_stamp 29 = .ok (.getfield 14, 3) := by decide +kernel
theorem dX4_stamp_32 : decode cX4_stamp 32 = .ok (.iload_n 3, 1) := by decide +kernel
theorem dX4_stamp_33 : decode cX4_stamp 33 = .ok (.iload 4, 2) := by decide +kernel
theorem dX4_stamp_35 : decode cX4_stamp 35 = .ok (.iconst 3, 1) := by decide +kernel
theorem dX4_stamp_36 : decode cX4_stamp 36 = .ok (.iconst 3, 1) := by decide +kernel
theorem dX4_stamp_37 : decode cX4_stamp 37 = .ok (.invokevirtual 108, 3) := by decide +kernel
theorem dX4_stamp_40 : decode cX4_stamp 40 = .ok (.ifCond .ne 13, 3) := by decide +kernel
theorem dX4_stamp_43 : decode cX4_stamp 43 = .ok (.new 74, 3) := by decide +kernel
theorem dX4_stamp_46 : decode cX4_stamp 46 = .ok (.dup, 1) := by decide +kernel
theorem dX4_stamp_47 : decode cX4_stamp 47 = .ok (.ldc 116, 2) := by decide +kernel
theorem dX4_stamp_49 : decode cX4_stamp 49 = .ok (.invokespecial 78, 3) := by decide +kernel
theorem dX4_stamp_52 : decode cX4_stamp 52 = .ok (.athrow, 1) := by decide +kernel
theorem dX4_stamp_53 : decode cX4_stamp 53 = .ok (.iconst 0, 1) := by decide +kernel
theorem dX4_stamp_54 : decode cX4_stamp 54 = .ok (.istore 5, 2) := by decide +kernel
theorem dX4_stamp_56 : decode cX4_stamp 56 = .ok (.iconst 0, 1) := by decide +kernel
theorem dX4_stamp_57 : decode cX4_stamp 57 = .ok (.istore 6, 2) := by decide +kernel
theorem dX4_stamp_59 : decode cX4_stamp 59 = .ok (.iload 6, 2) := by decide +kernel
theorem dX4_stamp_61 : decode cX4_stamp 61 = .ok (.bipush 9, 2) := by decide +kernel
theorem dX4_stamp_63 : decode cX4_stamp 63 = .ok (.if_icmp .ge 80, 3) := by decide +kernel
theorem dX4_stamp_66 : decode cX4_stamp 66 = .ok (.iload 6, 2) := by decide +kernel
theorem dX4_stamp_68 : decode cX4_stamp 68 = .ok (.iload_n 2, 1) := by decide +kernel
theorem dX4_stamp_69 : decode cX4_stamp 69 = .ok (.invokestatic 118, 3) := by decide +kernel
theorem dX4_stamp_72 : decode cX4_stamp 72 = .ok (.istore 7, 2) := by decide +kernel
theorem dX4_stamp_74 : decode cX4_stamp 74 = .ok (.aload_n 0, 1) := by decide +kernel
theorem dX4_stamp_75 : decode cX4_stamp 75 = .ok (.getfield 14, 3) := by decide +kernel
theorem dX4_stamp_78 : decode cX4_stamp 78 = .ok (.iload_n 3, 1) := by decide +kernel
theorem dX4_stamp_79 : decode cX4_stamp 79 = .ok (.iload 7, 2) := by decide +kernel
theorem dX4_stamp_81 : decode cX4_stamp 81 = .ok (.iconst 3, 1) := by decide +kernel
theorem dX4_stamp_82 : decode cX4_stamp 82 = .ok (.irem, 1) := by decide +kernel
theorem dX4_stamp_83 : decode cX4_stamp 83 = .ok (.iadd, 1) := by decide +kernel
theorem dX4_stamp_84 : decode cX4_stamp 84 = .ok (.iload 4, 2) := by decide +kernel
theorem dX4_stamp_86 : decode cX4_stamp 86 = .ok (.iload 7, 2) := by decide +kernel
theorem dX4_stamp_88 : decode cX4_stamp 88 = .ok (.iconst 3, 1) := by decide +kernel
theorem dX4_stamp_89 : decode cX4_stamp 89 = .ok (.idiv, 1) := by decide +kernel
theorem dX4_stamp_90 : decode cX4_stamp 90 = .ok (.iadd, 1) := by decide +kernel
theorem dX4_stamp_91 : decode cX4_stamp 91 = .ok (.invokevirtual 70, 3) := by decide +kernel
theorem dX4_stamp_94 : decode cX4_stamp 94 = .ok (.istore 8, 2) := by decide +kernel
theorem dX4_stamp_96 : decode cX4_stamp 96 = .ok (.getstatic 121, 3) := by decide +kernel
theorem dX4_stamp_99 : decode cX4_stamp 99 = .ok (.iload_n 1, 1) := by decide +kernel
theorem dX4_stamp_100 : decode cX4_stamp 100 = .ok (.bipush 9, 2) := by decide +kernel
theorem dX4_stamp_102 : decode cX4_stamp 102 = .ok (.imul, 1) := by decide +kernel
theorem dX4_stamp_103 : decode cX4_stamp 103 = .ok (.iload 6, 2) := by decide +kernel
theorem dX4_stamp_105 : decode cX4_stamp 105 = .ok (.iadd, 1) := by decide +kernel
theorem dX4_stamp_106 : decode cX4_stamp 106 = .ok (.iaload, 1) := by decide +kernel
theorem dX4_stamp_107 : decode cX4_stamp 107 = .ok (.istore 9, 2) := by decide +kernel
theorem dX4_stamp_109 : decode cX4_stamp 109 = .ok (.aload_n 0, 1) := by decide +kernel
theorem dX4_stamp_110 : decode cX4_stamp 110 = .ok (.getfield 14, 3) := by decide +kernel
theorem dX4_stamp_113 : decode cX4_stamp 113 = .ok (.iload 8, 2) := by decide +kernel
theorem dX4_stamp_115 : decode cX4_stamp 115 = .ok (.invokevirtual 81, 3) := by decide +kernel
theorem dX4_stamp_118 : decode cX4_stamp 118 = .ok (.iload 9, 2) := by decide +kernel
theorem dX4_stamp_120 : decode cX4_stamp 120 = .ok (.if_icmp .eq 17, 3) := by decide +kernel
theorem dX4_stamp_123 : decode cX4_stamp 123 = .ok (.aload_n 0, 1) := by decide +kernel
theorem dX4_stamp_124 : decode cX4_stamp 124 = .ok (.getfield 14, 3) := by decide +kernel
theorem dX4_stamp_127 : decode cX4_stamp 127 = .ok (.iload 8, 2) := by decide +kernel
theorem dX4_stamp_129 : decode cX4_stamp 129 = .ok (.iload 9, 2) := by decide +kernel
theorem dX4_stamp_131 : decode cX4_stamp 131 = .ok (.invokevirtual 85, 3) := by decide +kernel
theorem dX4_stamp_134 : decode cX4_stamp 134 = .ok (.iinc 5 1, 3) := by decide +kernel
theorem dX4_stamp_137 : decode cX4_stamp 137 = .ok (.iinc 6 1, 3) := by decide +kernel
theorem dX4_stamp_140 : decode cX4_stamp 140 = .ok (.goto (-81), 3) := by decide +kernel
theorem dX4_stamp_143 : decode cX4_stamp 143 = .ok (.iload 5, 2) := by decide +kernel
theorem dX4_stamp_145 : decode cX4_stamp 145 = .ok (.ireturn, 1) := by decide +kernel
theorem dX4_spark_0 : decode cX4_spark 0 = .ok (.aload_n 0, 1) := by decide +kernel
theorem dX4_spark_1 : decode cX4_spark 1 = .ok (.getfield 14, 3) := by decide +kernel
theorem dX4_spark_4 : decode cX4_spark 4 = .ok (.iload_n 1, 1) := by decide +kernel
theorem dX4_spark_5 : decode cX4_spark 5 = .ok (.iload_n 2, 1) := by decide +kernel
theorem dX4_spark_6 : decode cX4_spark 6 = .ok (.invokevirtual 70, 3) := by decide +kernel
theorem dX4_spark_9 : decode cX4_spark 9 = .ok (.istore 4, 2) := by decide +kernel
theorem dX4_spark_11 : decode cX4_spark 11 = .ok (.iload 4, 2) := by decide +kernel
theorem dX4_spark_13 : decode cX4_spark 13 = .ok (.iconst (-1), 1) := by decide +kernel
theorem dX4_spark_14 : decode cX4_spark 14 = .ok (.if_icmp .eq 13, 3) := by decide +kernel
theorem dX4_spark_17 : decode cX4_spark 17 = .ok (.iload_n 3, 1) := by decide +kernel
theorem dX4_spark_18 : decode cX4_spark 18 = .ok (.ifCond .lt 9, 3) := by decide +kernel
theorem dX4_spark_21 : decode cX4_spark 21 = .ok (.iload_n 3, 1) := by decide +kernel
theorem dX4_spark_22 : decode cX4_spark 22 = .ok (.bipush 8, 2) := by decide +kernel
theorem dX4_spark_24 : decode cX4_spark 24 = .ok (.if_icmp .lt 13, 3) := by decide +kernel
theorem dX4_spark_27 : decode cX4_spark 27 = .ok (.new 74, 3) := by decide +kernel
theorem dX4_spark_30 : decode cX4_spark 30 = .ok (.dup, 1) := by decide +kernel
theorem dX4_spark_31 : decode cX4_spark 31 = .ok (.ldc 125, 2) := by decide +kernel
theorem dX4_spark_33 : decode cX4_spark 33 = .ok (.invokespecial 78, 3) := by decide +kernel
theorem dX4_spark_36 : decode cX4_spark 36 = .ok (.athrow, 1) := by decide +kernel
theorem dX4_spark_37 : decode cX4_spark 37 = .ok (.aload_n 0, 1) := by decide +kernel
theorem dX4_spark_38 : decode cX4_spark 38 = .ok (.getfield 14, 3) := by decide +kernel
theorem dX4_spark_41 : decode cX4_spark 41 = .ok (.iload_n 1, 1) := by decide +kernel
theorem dX4_spark_42 : decode cX4_spark 42 = .ok (.getstatic 127, 3) := by decide +kernel
theorem dX4_spark_45 : decode cX4_spark 45 = .ok (.iload_n 3, 1) := by decide +kernel
theorem dX4_spark_46 : decode cX4_spark 46 = .ok (.iaload, 1) := by decide +kernel
theorem dX4_spark_47 : decode cX4_spark 47 = .ok (.isub, 1) := by decide +kernel
theorem dX4_spark_48 : decode cX4_spark 48 = .ok (.iload_n 2, 1) := by decide +kernel
theorem dX4_spark_49 : decode cX4_spark 49 = .ok (.getstatic 130, 3) := by decide +kernel
theorem dX4_spark_52 : decode cX4_spark 52 = .ok (.iload_n 3, 1) := by decide +kernel
theorem dX4_spark_53 : decode cX4_spark 53 = .ok (.iaload, 1) := by decide +kernel
theorem dX4_spark_54 : decode cX4_spark 54 = .ok (.isub, 1) := by decide +kernel
theorem dX4_spark_55 : decode cX4_spark 55 = .ok (.invokevirtual 70, 3) := by decide +kernel
theorem dX4_spark_58 : decode cX4_spark 58 = .ok (.istore 5, 2) := by decide +kernel
theorem dX4_spark_60 : decode cX4_spark 60 = .ok (.aload_n 0, 1) := by decide +kernel
theorem dX4_spark_61 : decode cX4_spark 61 = .ok (.getfield 14, 3) := by decide +kernel
theorem dX4_spark_64 : decode cX4_spark 64 = .ok (.iload 4, 2) := by decide +kernel
theorem dX4_spark_66 : decode cX4_spark 66 = .ok (.invokevirtual 81, 3) := by decide +kernel
theorem dX4_spark_69 : decode cX4_spark 69 = .ok (.iconst 1, 1) := by decide +kernel
theorem dX4_spark_70 : decode cX4_spark 70 = .ok (.if_icmp .ne 16, 3) := by decide +kernel
theorem dX4_spark_73 : decode cX4_spark 73 = .ok (.aload_n 0, 1) := by decide +kernel
theorem dX4_spark_74 : decode cX4_spark 74 = .ok (.getfield 14, 3) := by decide +kernel
theorem dX4_spark_77 : decode cX4_spark 77 = .ok (.iload 5, 2) := by decide +kernel
theorem dX4_spark_79 : decode cX4_spark 79 = .ok (.invokevirtual 81, 3) := by decide +kernel
theorem dX4_spark_82 : decode cX4_spark 82 = .ok (.iconst 1, 1) := by decide +kernel
theorem dX4_spark_83 : decode cX4_spark 83 = .ok (.if_icmp .eq 13, 3) := by decide +kernel
theorem dX4_spark_86 : decode cX4_spark 86 = .ok (.new 133, 3) := by decide +kernel
theorem dX4_spark_89 : decode cX4_spark 89 = .ok (.dup, 1) := by decide +kernel
theorem dX4_spark_90 : decode cX4_spark 90 = .ok (.ldc 135, 2) := by decide +kernel
theorem dX4_spark_92 : decode cX4_spark 92 = .ok (.invokespecial 137, 3) := by decide +kernel
theorem dX4_spark_95 : decode cX4_spark 95 = .ok (.athrow, 1) := by decide +kernel
theorem dX4_spark_96 : decode cX4_spark 96 = .ok (.aload_n 0, 1) := by decide +kernel
theorem dX4_spark_97 : decode cX4_spark 97 = .ok (.getfield 14, 3) := by decide +kernel
theorem dX4_spark_100 : decode cX4_spark 100 = .ok (.iload 4, 2) := by decide +kernel
theorem dX4_spark_102 : decode cX4_spark 102 = .ok (.iconst 2, 1) := by decide +kernel
theorem dX4_spark_103 : decode cX4_spark 103 = .ok (.invokevirtual 85, 3) := by decide +kernel
theorem dX4_spark_106 : decode cX4_spark 106 = .ok (.aload_n 0, 1) := by decide +kernel
theorem dX4_spark_107 : decode cX4_spark 107 = .ok (.getfield 14, 3) := by decide +kernel
theorem dX4_spark_110 : decode cX4_spark 110 = .ok (.iload 5, 2) := by decide +kernel
theorem dX4_spark_112 : decode cX4_spark 112 = .ok (.iconst 3, 1) := by decide +kernel
theorem dX4_spark_113 : decode cX4_spark 113 = .ok (.invokevirtual 85, 3) := by decide +kernel
theorem dX4_spark_116 : decode cX4_spark 116 = .ok (.aload_n 0, 1) := by decide +kernel
theorem dX4_spark_117 : decode cX4_spark 117 = .ok (.getfield 14, 3) := by decide +kernel
theorem dX4_spark_120 : decode cX4_spark 120 = .ok (.iconst 2, 1) := by decide +kernel
theorem dX4_spark_121 : decode cX4_spark 121 = .ok (.invokevirtual 138, 3) := by decide +kernel
theorem dX4_spark_124 : decode cX4_spark 124 = .ok (.ireturn, 1) := by decide +kernel
theorem dX4_lamp_0 : decode cX4_lamp 0 = .ok (.aload_n 0, 1) := by decide +kernel
theorem dX4_lamp_1 : decode cX4_lamp 1 = .ok (.getfield 14, 3) := by decide +kernel
theorem dX4_lamp_4 : decode cX4_lamp 4 = .ok (.iload_n 1, 1) := by decide +kernel
theorem dX4_lamp_5 : decode cX4_lamp 5 = .ok (.iload_n 2, 1) := by decide +kernel
theorem dX4_lamp_6 : decode cX4_lamp 6 = .ok (.invokevirtual 70, 3) := by decide +kernel
theorem dX4_lamp_9 : decode cX4_lamp 9 = .ok (.iconst (-1), 1) := by decide +kernel
theorem dX4_lamp_10 : decode cX4_lamp 10 = .ok (.if_icmp .ne 13, 3) := by decide +kernel
theorem dX4_lamp_13 : decode cX4_lamp 13 = .ok (.new 74, 3) := by decide +kernel
theorem dX4_lamp_16 : decode cX4_lamp 16 = .ok (.dup, 1) := by decide +kernel
theorem dX4_lamp_17 : decode cX4_lamp 17 = .ok (.ldc 76, 2) := by decide +kernel
theorem dX4_lamp_19 : decode cX4_lamp 19 = .ok (.invokespecial 78, 3) := by decide +kernel
theorem dX4_lamp_22 : decode cX4_lamp 22 = .ok (.athrow, 1) := by decide +kernel
theorem dX4_lamp_23 : decode cX4_lamp 23 = .ok (.aload_n 0, 1) := by decide +kernel
theorem dX4_lamp_24 : decode cX4_lamp 24 = .ok (.getfield 31, 3) := by decide +kernel
theorem dX4_lamp_27 : decode cX4_lamp 27 = .ok (.invokevirtual 141, 3) := by decide +kernel
theorem dX4_lamp_30 : decode cX4_lamp 30 = .ok (.iconst 5, 1) := by decide +kernel
theorem dX4_lamp_31 : decode cX4_lamp 31 = .ok (.if_icmp .lt 13, 3) := by decide +kernel
theorem dX4_lamp_34 : decode cX4_lamp 34 = .ok (.new 133, 3) := by decide +kernel
theorem dX4_lamp_37 : decode cX4_lamp 37 = .ok (.dup, 1) := by decide +kernel
theorem dX4_lamp_38 : decode cX4_lamp 38 = .ok (.ldc 143, 2) := by decide +kernel
theorem dX4_lamp_40 : decode cX4_lamp 40 = .ok (.invokespecial 137, 3) := by decide +kernel
theorem dX4_lamp_43 : decode cX4_lamp 43 = .ok (.athrow, 1) := by decide +kernel
theorem dX4_lamp_44 : decode cX4_lamp 44 = .ok (.aload_n 0, 1) := by decide +kernel
theorem dX4_lamp_45 : decode cX4_lamp 45 = .ok (.getfield 31, 3) := by decide +kernel
theorem dX4_lamp_48 : decode cX4_lamp 48 = .ok (.iload_n 1, 1) := by decide +kernel
theorem dX4_lamp_49 : decode cX4_lamp 49 = .ok (.iload_n 2, 1) := by decide +kernel
theorem dX4_lamp_50 : decode cX4_lamp 50 = .ok (.invokevirtual 145, 3) := by decide +kernel
theorem dX4_lamp_53 : decode cX4_lamp 53 = .ok (.ireturn, 1) := by decide +kernel
theorem dX4_pass_0 : decode cX4_pass 0 = .ok (.iload_n 1, 1) := by decide +kernel
theorem dX4_pass_1 : decode cX4_pass 1 = .ok (.iconst 1, 1) := by decide +kernel
theorem dX4_pass_2 : decode cX4_pass 2 = .ok (.if_icmp .lt 9, 3) := by decide +kernel
theorem dX4_pass_5 : decode cX4_pass 5 = .ok (.iload_n 1, 1) := by decide +kernel
theorem dX4_pass_6 : decode cX4_pass 6 = .ok (.bipush 100, 2) := by decide +kernel
theorem dX4_pass_8 : decode cX4_pass 8 = .ok (.if_icmp .le 13, 3) := by decide +kernel
theorem dX4_pass_11 : decode cX4_pass 11 = .ok (.new 54, 3) := by decide +kernel
theorem dX4_pass_14 : decode cX4_pass 14 = .ok (.dup, 1) := by decide +kernel
theorem dX4_pass_15 : decode cX4_pass 15 = .ok (.ldc 148, 2) := by decide +kernel
theorem dX4_pass_17 : decode cX4_pass 17 = .ok (.invokespecial 58, 3) := by decide +kernel
theorem dX4_pass_20 : decode cX4_pass 20 = .ok (.athrow, 1) := by decide +kernel
theorem dX4_pass_21 : decode cX4_pass 21 = .ok (.iconst 0, 1) := by decide +kernel
theorem dX4_pass_22 : decode cX4_pass 22 = .ok (.istore_n 2, 1) := by decide +kernel
theorem dX4_pass_23 : decode cX4_pass 23 = .ok (.iconst 0, 1) := by decide +kernel
theorem dX4_pass_24 : decode cX4_pass 24 = .ok (.istore_n 3, 1) := by decide +kernel
theorem dX4_pass_25 : decode cX4_pass 25 = .ok (.iload_n 3, 1) := by decide +kernel
theorem dX4_pass_26 : decode cX4_pass 26 = .ok (.iload_n 1, 1) := by decide +kernel
theorem dX4_pass_27 : decode cX4_pass 27 = .ok (.if_icmp .ge 61, 3) := by decide +kernel
theorem dX4_pass_30 : decode cX4_pass 30 = .ok (.aload_n 0, 1) := by decide +kernel
theorem dX4_pass_31 : decode cX4_pass 31 = .ok (.getfield 14, 3) := by decide +kernel
theorem dX4_pass_34 : decode cX4_pass 34 = .ok (.invokevirtual 150, 3) := by decide +kernel
theorem dX4_pass_37 : decode cX4_pass 37 = .ok (.aload_n 0, 1) := by decide +kernel
theorem dX4_pass_38 : decode cX4_pass 38 = .ok (.dup, 1) := by decide +kernel
theorem dX4_pass_39 : decode cX4_pass 39 = .ok (.getfield 42, 3) := by decide +kernel
theorem dX4_pass_42 : decode cX4_pass 42 = .ok (.iconst 1, 1) := by decide +kernel
theorem dX4_pass_43 : decode cX4_pass 43 = .ok (.iadd, 1) := by decide +kernel
theorem dX4_pass_44 : decode cX4_pass 44 = .ok (.putfield 42, 3) := by decide +kernel
theorem dX4_pass_47 : decode cX4_pass 47 = .ok (.aload_n 0, 1) := by decide +kernel
theorem dX4_pass_48 : decode cX4_pass 48 = .ok (.getfield 31, 3) := by decide +kernel
theorem dX4_pass_51 : decode cX4_pass 51 = .ok (.aload_n 0, 1) := by decide +kernel
theorem dX4_pass_52 : decode cX4_pass 52 = .ok (.getfield 14, 3) := by decide +kernel
theorem dX4_pass_55 : decode cX4_pass 55 = .ok (.aload_n 0, 1) := by decide +kernel
theorem dX4_pass_56 : decode cX4_pass 56 = .ok (.getfield 42, 3) := by decide +kernel
theorem dX4_pass_59 : decode cX4_pass 59 = .ok (.invokevirtual 153, 3) := by decide +kernel
theorem dX4_pass_62 : decode cX4_pass 62 = .ok (.aload_n 0, 1) := by decide +kernel
theorem dX4_pass_63 : decode cX4_pass 63 = .ok (.getfield 14, 3) := by decide +kernel
theorem dX4_pass_66 : decode cX4_pass 66 = .ok (.iconst 2, 1) := by decide +kernel
theorem dX4_pass_67 : decode cX4_pass 67 = .ok (.invokevirtual 138, 3) := by decide +kernel
theorem dX4_pass_70 : decode cX4_pass 70 = .ok (.istore_n 2, 1) := by decide +kernel
theorem dX4_pass_71 : decode cX4_pass 71 = .ok (.aload_n 0, 1) := by decide +kernel
theorem dX4_pass_72 : decode cX4_pass 72 = .ok (.dup, 1) := by decide +kernel
theorem dX4_pass_73 : decode cX4_pass 73 = .ok (.getfield 46, 3) := by decide +kernel
theorem dX4_pass_76 : decode cX4_pass 76 = .ok (.iload_n 2, 1) := by decide +kernel
theorem dX4_pass_77 : decode cX4_pass 77 = .ok (.i2l, 1) := by decide +kernel
theorem dX4_pass_78 : decode cX4_pass 78 = .ok (.ladd, 1) := by decide +kernel
theorem dX4_pass_79 : decode cX4_pass 79 = .ok (.putfield 46, 3) := by decide +kernel
theorem dX4_pass_82 : decode cX4_pass 82 = .ok (.iinc 3 1, 3) := by decide +kernel
theorem dX4_pass_85 : decode cX4_pass 85 = .ok (.goto (-60), 3) := by decide +kernel
theorem dX4_pass_88 : decode cX4_pass 88 = .ok (.iload_n 2, 1) := by decide +kernel
theorem dX4_pass_89 : decode cX4_pass 89 = .ok (.ireturn, 1) := by decide +kernel
theorem dX4_told_0 : decode cX4_told 0 = .ok (.aload_n 0, 1) := by decide +kernel
theorem dX4_told_1 : decode cX4_told 1 = .ok (.getfield 14, 3) := by decide +kernel
theorem dX4_told_4 : decode cX4_told 4 = .ok (.iload_n 1, 1) := by decide +kernel
theorem dX4_told_5 : decode cX4_told 5 = .ok (.iload_n 2, 1) := by decide +kernel
theorem dX4_told_6 : decode cX4_told 6 = .ok (.invokevirtual 70, 3) := by decide +kernel
theorem dX4_told_9 : decode cX4_told 9 = .ok (.istore 4, 2) := by decide +kernel
theorem dX4_told_11 : decode cX4_told 11 = .ok (.iload 4, 2) := by decide +kernel
theorem dX4_told_13 : decode cX4_told 13 = .ok (.iconst (-1), 1) := by decide +kernel
theorem dX4_told_14 : decode cX4_told 14 = .ok (.if_icmp .eq 12, 3) := by decide +kernel
theorem dX4_told_17 : decode cX4_told 17 = .ok (.iload_n 3, 1) := by decide +kernel
theorem dX4_told_18 : decode cX4_told 18 = .ok (.ifCond .lt 8, 3) := by decide +kernel
theorem dX4_told_21 : decode cX4_told 21 = .ok (.iload_n 3, 1) := by decide +kernel
theorem dX4_told_22 : decode cX4_told 22 = .ok (.iconst 5, 1) := by decide +kernel
theorem dX4_told_23 : decode cX4_told 23 = .ok (.if_icmp .lt 13, 3) := by decide +kernel
theorem dX4_told_26 : decode cX4_told 26 = .ok (.new 74, 3) := by decide +kernel
theorem dX4_told_29 : decode cX4_told 29 = .ok (.dup, 1) := by decide +kernel
theorem dX4_told_30 : decode cX4_told 30 = .ok (.ldc 157, 2) := by decide +kernel
theorem dX4_told_32 : decode cX4_told 32 = .ok (.invokespecial 78, 3) := by decide +kernel
theorem dX4_told_35 : decode cX4_told 35 = .ok (.athrow, 1) := by decide +kernel
theorem dX4_told_36 : decode cX4_told 36 = .ok (.iload_n 3, 1) := by decide +kernel
theorem dX4_told_37 : decode cX4_told 37 = .ok (.tableswitch 87 0 3 #[31, 41, 51, 73], 31) := by decide +kernel
theorem dX4_told_68 : decode cX4_told 68 = .ok (.aload_n 0, 1) := by decide +kernel
theorem dX4_told_69 : decode cX4_told 69 = .ok (.getfield 14, 3) := by decide +kernel
theorem dX4_told_72 : decode cX4_told 72 = .ok (.iload 4, 2) := by decide +kernel
theorem dX4_told_74 : decode cX4_told 74 = .ok (.invokevirtual 81, 3) := by decide +kernel
theorem dX4_told_77 : decode cX4_told 77 = .ok (.ireturn, 1) := by decide +kernel
theorem dX4_told_78 : decode cX4_told 78 = .ok (.aload_n 0, 1) := by decide +kernel
theorem dX4_told_79 : decode cX4_told 79 = .ok (.getfield 14, 3) := by decide +kernel
theorem dX4_told_82 : decode cX4_told 82 = .ok (.iload_n 1, 1) := by decide +kernel
theorem dX4_told_83 : decode cX4_told 83 = .ok (.iload_n 2, 1) := by decide +kernel
theorem dX4_told_84 : decode cX4_told 84 = .ok (.invokevirtual 159, 3) := by decide +kernel
theorem dX4_told_87 : decode cX4_told 87 = .ok (.ireturn, 1) := by decide +kernel
theorem dX4_told_88 : decode cX4_told 88 = .ok (.aload_n 0, 1) := by decide +kernel
theorem dX4_told_89 : decode cX4_told 89 = .ok (.getfield 14, 3) := by decide +kernel
theorem dX4_told_92 : decode cX4_told 92 = .ok (.iload 4, 2) := by decide +kernel
theorem dX4_told_94 : decode cX4_told 94 = .ok (.invokevirtual 81, 3) := by decide +kernel
theorem dX4_told_97 : decode cX4_told 97 = .ok (.aload_n 0, 1) := by decide +kernel
theorem dX4_told_98 : decode cX4_told 98 = .ok (.getfield 14, 3) := by decide +kernel
theorem dX4_told_101 : decode cX4_told 101 = .ok (.iload_n 1, 1) := by decide +kernel
theorem dX4_told_102 : decode cX4_told 102 = .ok (.iload_n 2, 1) := by decide +kernel
theorem dX4_told_103 : decode cX4_told 103 = .ok (.invokevirtual 159, 3) := by decide +kernel
theorem dX4_told_106 : decode cX4_told 106 = .ok (.invokestatic 162, 3) := by decide +kernel
theorem dX4_told_109 : decode cX4_told 109 = .ok (.ireturn, 1) := by decide +kernel
theorem dX4_told_110 : decode cX4_told 110 = .ok (.aload_n 0, 1) := by decide +kernel
theorem dX4_told_111 : decode cX4_told 111 = .ok (.getfield 24, 3) := by decide +kernel
theorem dX4_told_114 : decode cX4_told 114 = .ok (.aload_n 0, 1) := by decide +kernel
theorem dX4_told_115 : decode cX4_told 115 = .ok (.getfield 14, 3) := by decide +kernel
theorem dX4_told_118 : decode cX4_told 118 = .ok (.iload_n 1, 1) := by decide +kernel
theorem dX4_told_119 : decode cX4_told 119 = .ok (.iload_n 2, 1) := by decide +kernel
theorem dX4_told_120 : decode cX4_told 120 = .ok (.invokevirtual 165, 3) := by decide +kernel
theorem dX4_told_123 : decode cX4_told 123 = .ok (.ireturn, 1) := by decide +kernel
theorem dX4_told_124 : decode cX4_told 124 = .ok (.aload_n 0, 1) := by decide +kernel
theorem dX4_told_125 : decode cX4_told 125 = .ok (.getfield 14, 3) := by decide +kernel
theorem dX4_told_128 : decode cX4_told 128 = .ok (.iload_n 1, 1) := by decide +kernel
theorem dX4_told_129 : decode cX4_told 129 = .ok (.iload_n 2, 1) := by decide +kernel
theorem dX4_told_130 : decode cX4_told 130 = .ok (.invokevirtual 169, 3) := by decide +kernel
theorem dX4_told_133 : decode cX4_told 133 = .ok (.ireturn, 1) := by decide +kernel
theorem dX4_about_0 : decode cX4_about 0 = .ok (.iload_n 1, 1) := by decide +kernel
theorem dX4_about_1 : decode cX4_about 1 = .ok (.ifCond .lt 23, 3) := by decide +kernel
theorem dX4_about_4 : decode cX4_about 4 = .ok (.iload_n 1, 1) := by decide +kernel
theorem dX4_about_5 : decode cX4_about 5 = .ok (.aload_n 0, 1) := by decide +kernel
theorem dX4_about_6 : decode cX4_about 6 = .ok (.getfield 31, 3) := by decide +kernel
theorem dX4_about_9 : decode cX4_about 9 = .ok (.invokevirtual 141, 3) := by decide +kernel
theorem dX4_about_12 : decode cX4_about 12 = .ok (.if_icmp .ge 12, 3) := by decide +kernel
theorem dX4_about_15 : decode cX4_about 15 = .ok (.iload_n 2, 1) := by decide +kernel
theorem dX4_about_16 : decode cX4_about 16 = .ok (.ifCond .lt 8, 3) := by decide +kernel
theorem dX4_about_19 : decode cX4_about 19 = .ok (.iload_n 2, 1) := by decide +kernel
theorem dX4_about_20 : decode cX4_about 20 = .ok (.iconst 4, 1) := by decide +kernel
theorem dX4_about_21 : decode cX4_about 21 = .ok (.if_icmp .lt 13, 3) := by decide +kernel
theorem dX4_about_24 : decode cX4_about 24 = .ok (.new 74, 3) := by decide +kernel
theorem dX4_about_27 : decode cX4_about 27 = .ok (.dup, 1) := by decide +kernel
theorem dX4_about_28 : decode cX4_about 28 = .ok (.ldc 172, 2) := by decide +kernel
theorem dX4_about_30 : decode cX4_about 30 = .ok (.invokespecial 78, 3) := by decide +kernel
theorem dX4_about_33 : decode cX4_about 33 = .ok (.athrow, 1) := by decide +kernel
theorem dX4_about_34 : decode cX4_about 34 = .ok (.iload_n 2, 1) := by decide +kernel
theorem dX4_about_35 : decode cX4_about 35 = .ok (.tableswitch 52 0 2 #[25, 34, 43], 25) := by decide +kernel
theorem dX4_about_60 : decode cX4_about 60 = .ok (.aload_n 0, 1) := by decide +kernel
theorem dX4_about_61 : decode cX4_about 61 = .ok (.getfield 31, 3) := by decide +kernel
theorem dX4_about_64 : decode cX4_about 64 = .ok (.iload_n 1, 1) := by decide +kernel
theorem dX4_about_65 : decode cX4_about 65 = .ok (.invokevirtual 174, 3) := by decide +kernel
theorem dX4_about_68 : decode cX4_about 68 = .ok (.ireturn, 1) := by decide +kernel
theorem dX4_about_69 : decode cX4_about 69 = .ok (.aload_n 0, 1) := by decide +kernel
theorem dX4_about_70 : decode cX4_about 70 = .ok (.getfield 31, 3) := by decide +kernel
theorem dX4_about_73 : decode cX4_about 73 = .ok (.iload_n 1, 1) := by decide +kernel
theorem dX4_about_74 : decode cX4_about 74 = .ok (.invokevirtual 177, 3) := by decide +kernel
theorem dX4_about_77 : decode cX4_about 77 = .ok (.ireturn, 1) := by decide +kernel
theorem dX4_about_78 : decode cX4_about 78 = .ok (.aload_n 0, 1) := by decide +kernel
theorem dX4_about_79 : decode cX4_about 79 = .ok (.getfield 31, 3) := by decide +kernel
theorem dX4_about_82 : decode cX4_about 82 = .ok (.iload_n 1, 1) := by decide +kernel
theorem dX4_about_83 : decode cX4_about 83 = .ok (.invokevirtual 180, 3) := by decide +kernel
theorem dX4_about_86 : decode cX4_about 86 = .ok (.ireturn, 1) := by decide +kernel
theorem dX4_about_87 : decode cX4_about 87 = .ok (.aload_n 0, 1) := by decide +kernel
theorem dX4_about_88 : decode cX4_about 88 = .ok (.getfield 31, 3) := by decide +kernel
theorem dX4_about_91 : decode cX4_about 91 = .ok (.iload_n 1, 1) := by decide +kernel
theorem dX4_about_92 : decode cX4_about 92 = .ok (.invokevirtual 183, 3) := by decide +kernel
theorem dX4_about_95 : decode cX4_about 95 = .ok (.ireturn, 1) := by decide +kernel
theorem dX4_count_0 : decode cX4_count 0 = .ok (.iload_n 1, 1) := by decide +kernel
theorem dX4_count_1 : decode cX4_count 1 = .ok (.ifCond .lt 9, 3) := by decide +kernel
theorem dX4_count_4 : decode cX4_count 4 = .ok (.iload_n 1, 1) := by decide +kernel
theorem dX4_count_5 : decode cX4_count 5 = .ok (.bipush 10, 2) := by decide +kernel
theorem dX4_count_7 : decode cX4_count 7 = .ok (.if_icmp .lt 13, 3) := by decide +kernel
theorem dX4_count_10 : decode cX4_count 10 = .ok (.new 74, 3) := by decide +kernel
theorem dX4_count_13 : decode cX4_count 13 = .ok (.dup, 1) := by decide +kernel
theorem dX4_count_14 : decode cX4_count 14 = .ok (.ldc 186, 2) := by decide +kernel
theorem dX4_count_16 : decode cX4_count 16 = .ok (.invokespecial 78, 3) := by decide +kernel
theorem dX4_count_19 : decode cX4_count 19 = .ok (.athrow, 1) := by decide +kernel
theorem dX4_count_20 : decode cX4_count 20 = .ok (.iload_n 1, 1) := by decide +kernel
theorem dX4_count_21 : decode cX4_count 21 = .ok (.tableswitch 131 0 8 #[51, 56, 64, 72, 81, 90, 99, 111, 123], 51) := by decide +kernel
theorem dX4_count_72 : decode cX4_count 72 = .ok (.aload_n 0, 1) := by decide +kernel
theorem dX4_count_73 : decode cX4_count 73 = .ok (.getfield 42, 3) := by decide +kernel
theorem dX4_count_76 : decode cX4_count 76 = .ok (.ireturn, 1) := by decide +kernel
theorem dX4_count_77 : decode cX4_count 77 = .ok (.aload_n 0, 1) := by decide +kernel
theorem dX4_count_78 : decode cX4_count 78 = .ok (.getfield 14, 3) := by decide +kernel
theorem dX4_count_81 : decode cX4_count 81 = .ok (.invokevirtual 188, 3) := by decide +kernel
theorem dX4_count_84 : decode cX4_count 84 = .ok (.ireturn, 1) := by decide +kernel
theorem dX4_count_85 : decode cX4_count 85 = .ok (.aload_n 0, 1) := by decide +kernel
theorem dX4_count_86 : decode cX4_count 86 = .ok (.getfield 14, 3) := by decide +kernel
theorem dX4_count_89 : decode cX4_count 89 = .ok (.invokevirtual 191, 3) := by decide +kernel
theorem dX4_count_92 : decode cX4_count 92 = .ok (.ireturn, 1) := by decide +kernel
theorem dX4_count_93 : decode cX4_count 93 = .ok (.aload_n 0, 1) := by decide +kernel
theorem dX4_count_94 : decode cX4_count 94 = .ok (.getfield 14, 3) := by decide +kernel
theorem dX4_count_97 : decode cX4_count 97 = .ok (.iconst 1, 1) := by decide +kernel
theorem dX4_count_98 : decode cX4_count 98 = .ok (.invokevirtual 138, 3) := by decide +kernel
theorem dX4_count_101 : decode cX4_count 101 = .ok (.ireturn, 1) := by decide +kernel
theorem dX4_count_102 : decode cX4_count 102 = .ok (.aload_n 0, 1) := by decide +kernel
theorem dX4_count_103 : decode cX4_count 103 = .ok (.getfield 14, 3) := by decide +kernel
theorem dX4_count_106 : decode cX4_count 106 = .ok (.iconst 2, 1) := by decide +kernel
theorem dX4_count_107 : decode cX4_count 107 = .ok (.invokevirtual 138, 3) := by decide +kernel
theorem dX4_count_110 : decode cX4_count 110 = .ok (.ireturn, 1) := by decide +kernel
theorem dX4_count_111 : decode cX4_count 111 = .ok (.aload_n 0, 1) := by decide +kernel
theorem dX4_count_112 : decode cX4_count 112 = .ok (.getfield 14, 3) := by decide +kernel
theorem dX4_count_115 : decode cX4_count 115 = .ok (.iconst 3, 1) := by decide +kernel
theorem dX4_count_116 : decode cX4_count 116 = .ok (.invokevirtual 138, 3) := by decide +kernel
theorem dX4_count_119 : decode cX4_count 119 = .ok (.ireturn, 1) := by decide +kernel
theorem dX4_count_120 : decode cX4_count 120 = .ok (.aload_n 0, 1) := by decide +kernel
theorem dX4_count_121 : decode cX4_count 121 = .ok (.getfield 24, 3) := by decide +kernel
theorem dX4_count_124 : decode cX4_count 124 = .ok (.aload_n 0, 1) := by decide +kernel
theorem dX4_count_125 : decode cX4_count 125 = .ok (.getfield 14, 3) := by decide +kernel
theorem dX4_count_128 : decode cX4_count 128 = .ok (.invokevirtual 194, 3) := by decide +kernel
theorem dX4_count_131 : decode cX4_count 131 = .ok (.ireturn, 1) := by decide +kernel
theorem dX4_count_132 : decode cX4_count 132 = .ok (.aload_n 0, 1) := by decide +kernel
theorem dX4_count_133 : decode cX4_count 133 = .ok (.getfield 24, 3) := by decide +kernel
theorem dX4_count_136 : decode cX4_count 136 = .ok (.aload_n 0, 1) := by decide +kernel
theorem dX4_count_137 : decode cX4_count 137 = .ok (.getfield 14, 3) := by decide +kernel
theorem dX4_count_140 : decode cX4_count 140 = .ok (.invokevirtual 198, 3) := by decide +kernel
theorem dX4_count_143 : decode cX4_count 143 = .ok (.ireturn, 1) := by decide +kernel
theorem dX4_count_144 : decode cX4_count 144 = .ok (.aload_n 0, 1) := by decide +kernel
theorem dX4_count_145 : decode cX4_count 145 = .ok (.getfield 31, 3) := by decide +kernel
theorem dX4_count_148 : decode cX4_count 148 = .ok (.invokevirtual 141, 3) := by decide +kernel
theorem dX4_count_151 : decode cX4_count 151 = .ok (.ireturn, 1) := by decide +kernel
theorem dX4_count_152 : decode cX4_count 152 = .ok (.aload_n 0, 1) := by decide +kernel
theorem dX4_count_153 : decode cX4_count 153 = .ok (.getfield 31, 3) := by decide +kernel
theorem dX4_count_156 : decode cX4_count 156 = .ok (.invokevirtual 201, 3) := by decide +kernel
theorem dX4_count_159 : decode cX4_count 159 = .ok (.ireturn, 1) := by decide +kernel
theorem dX4_way_0 : decode cX4_way 0 = .ok (.aload_n 0, 1) := by decide +kernel
theorem dX4_way_1 : decode cX4_way 1 = .ok (.getfield 14, 3) := by decide +kernel
theorem dX4_way_4 : decode cX4_way 4 = .ok (.iload_n 1, 1) := by decide +kernel
theorem dX4_way_5 : decode cX4_way 5 = .ok (.iload_n 2, 1) := by decide +kernel
theorem dX4_way_6 : decode cX4_way 6 = .ok (.invokevirtual 70, 3) := by decide +kernel
theorem dX4_way_9 : decode cX4_way 9 = .ok (.istore 5, 2) := by decide +kernel
theorem dX4_way_11 : decode cX4_way 11 = .ok (.aload_n 0, 1) := by decide +kernel
theorem dX4_way_12 : decode cX4_way 12 = .ok (.getfield 14, 3) := by decide +kernel
theorem dX4_way_15 : decode cX4_way 15 = .ok (.iload_n 3, 1) := by decide +kernel
theorem dX4_way_16 : decode cX4_way 16 = .ok (.iload 4, 2) := by decide +kernel
theorem dX4_way_18 : decode cX4_way 18 = .ok (.invokevirtual 70, 3) := by decide +kernel
theorem dX4_way_21 : decode cX4_way 21 = .ok (.istore 6, 2) := by decide +kernel
theorem dX4_way_23 : decode cX4_way 23 = .ok (.iload 5, 2) := by decide +kernel
theorem dX4_way_25 : decode cX4_way 25 = .ok (.iconst (-1), 1) := by decide +kernel
theorem dX4_way_26 : decode cX4_way 26 = .ok (.if_icmp .eq 9, 3) := by decide +kernel
theorem dX4_way_29 : decode cX4_way 29 = .ok (.iload 6, 2) := by decide +kernel
theorem dX4_way_31 : decode cX4_way 31 = .ok (.iconst (-1), 1) := by decide +kernel
theorem dX4_way_32 : decode cX4_way 32 = .ok (.if_icmp .ne 13, 3) := by decide +kernel
theorem dX4_way_35 : decode cX4_way 35 = .ok (.new 74, 3) := by decide +kernel
theorem dX4_way_38 : decode cX4_way 38 = .ok (.dup, 1) := by decide +kernel
theorem dX4_way_39 : decode cX4_way 39 = .ok (.ldc 76, 2) := by decide +kernel
theorem dX4_way_41 : decode cX4_way 41 = .ok (.invokespecial 78, 3) := by decide +kernel
theorem dX4_way_44 : decode cX4_way 44 = .ok (.athrow, 1) := by decide +kernel
theorem dX4_way_45 : decode cX4_way 45 = .ok (.aload_n 0, 1) := by decide +kernel
theorem dX4_way_46 : decode cX4_way 46 = .ok (.getfield 24, 3) := by decide +kernel
theorem dX4_way_49 : decode cX4_way 49 = .ok (.aload_n 0, 1) := by decide +kernel
theorem dX4_way_50 : decode cX4_way 50 = .ok (.getfield 14, 3) := by decide +kernel
theorem dX4_way_53 : decode cX4_way 53 = .ok (.iload_n 1, 1) := by decide +kernel
theorem dX4_way_54 : decode cX4_way 54 = .ok (.iload_n 2, 1) := by decide +kernel
theorem dX4_way_55 : decode cX4_way 55 = .ok (.iload 6, 2) := by decide +kernel
theorem dX4_way_57 : decode cX4_way 57 = .ok (.invokevirtual 204, 3) := by decide +kernel
theorem dX4_way_60 : decode cX4_way 60 = .ok (.ireturn, 1) := by decide +kernel
theorem dX4_period_0 : decode cX4_period 0 = .ok (.iload_n 1, 1) := by decide +kernel
theorem dX4_period_1 : decode cX4_period 1 = .ok (.ifCond .lt 8, 3) := by decide +kernel
theorem dX4_period_4 : decode cX4_period 4 = .ok (.iload_n 1, 1) := by decide +kernel
theorem dX4_period_5 : decode cX4_period 5 = .ok (.iconst 1, 1) := by decide +kernel
theorem dX4_period_6 : decode cX4_period 6 = .ok (.if_icmp .le 13, 3) := by decide +kernel
theorem dX4_period_9 : decode cX4_period 9 = .ok (.new 74, 3) := by decide +kernel
theorem dX4_period_12 : decode cX4_period 12 = .ok (.dup, 1) := by decide +kernel
theorem dX4_period_13 : decode cX4_period 13 = .ok (.ldc 208, 2) := by decide +kernel
theorem dX4_period_15 : decode cX4_period 15 = .ok (.invokespecial 78, 3) := by decide +kernel
theorem dX4_period_18 : decode cX4_period 18 = .ok (.athrow, 1) := by decide +kernel
theorem dX4_period_19 : decode cX4_period 19 = .ok (.aload_n 0, 1) := by decide +kernel
theorem dX4_period_20 : decode cX4_period 20 = .ok (.getfield 18, 3) := by decide +kernel
theorem dX4_period_23 : decode cX4_period 23 = .ok (.aload_n 0, 1) := by decide +kernel
theorem dX4_period_24 : decode cX4_period 24 = .ok (.getfield 14, 3) := by decide +kernel
theorem dX4_period_27 : decode cX4_period 27 = .ok (.invokevirtual 210, 3) := by decide +kernel
theorem dX4_period_30 : decode cX4_period 30 = .ok (.aload_n 0, 1) := by decide +kernel
theorem dX4_period_31 : decode cX4_period 31 = .ok (.getfield 38, 3) := by decide +kernel
theorem dX4_period_34 : decode cX4_period 34 = .ok (.iconst 0, 1) := by decide +kernel
theorem dX4_period_35 : decode cX4_period 35 = .ok (.aload_n 0, 1) := by decide +kernel
theorem dX4_period_36 : decode cX4_period 36 = .ok (.getfield 18, 3) := by decide +kernel
theorem dX4_period_39 : decode cX4_period 39 = .ok (.invokevirtual 214, 3) := by decide +kernel
theorem dX4_period_42 : decode cX4_period 42 = .ok (.iconst 1, 1) := by decide +kernel
theorem dX4_period_43 : decode cX4_period 43 = .ok (.istore_n 2, 1) := by decide +kernel
theorem dX4_period_44 : decode cX4_period 44 = .ok (.iload_n 2, 1) := by decide +kernel
theorem dX4_period_45 : decode cX4_period 45 = .ok (.bipush 90, 2) := by decide +kernel
theorem dX4_period_47 : decode cX4_period 47 = .ok (.if_icmp .gt 54, 3) := by decide +kernel
theorem dX4_period_50 : decode cX4_period 50 = .ok (.aload_n 0, 1) := by decide +kernel
theorem dX4_period_51 : decode cX4_period 51 = .ok (.getfield 18, 3) := by decide +kernel
theorem dX4_period_54 : decode cX4_period 54 = .ok (.invokevirtual 150, 3) := by decide +kernel
theorem dX4_period_57 : decode cX4_period 57 = .ok (.aload_n 0, 1) := by decide +kernel
theorem dX4_period_58 : decode cX4_period 58 = .ok (.getfield 38, 3) := by decide +kernel
theorem dX4_period_61 : decode cX4_period 61 = .ok (.iload_n 2, 1) := by decide +kernel
theorem dX4_period_62 : decode cX4_period 62 = .ok (.aload_n 0, 1) := by decide +kernel
theorem dX4_period_63 : decode cX4_period 63 = .ok (.getfield 18, 3) := by decide +kernel
theorem dX4_period_66 : decode cX4_period 66 = .ok (.invokevirtual 214, 3) := by decide +kernel
theorem dX4_period_69 : decode cX4_period 69 = .ok (.aload_n 0, 1) := by decide +kernel
theorem dX4_period_70 : decode cX4_period 70 = .ok (.getfield 38, 3) := by decide +kernel
theorem dX4_period_73 : decode cX4_period 73 = .ok (.iload_n 2, 1) := by decide +kernel
theorem dX4_period_74 : decode cX4_period 74 = .ok (.invokevirtual 218, 3) := by decide +kernel
theorem dX4_period_77 : decode cX4_period 77 = .ok (.istore_n 3, 1) := by decide +kernel
theorem dX4_period_78 : decode cX4_period 78 = .ok (.iload_n 3, 1) := by decide +kernel
theorem dX4_period_79 : decode cX4_period 79 = .ok (.iload_n 2, 1) := by decide +kernel
theorem dX4_period_80 : decode cX4_period 80 = .ok (.if_icmp .ge 15, 3) := by decide +kernel
theorem dX4_period_83 : decode cX4_period 83 = .ok (.iload_n 1, 1) := by decide +kernel
theorem dX4_period_84 : decode cX4_period 84 = .ok (.ifCond .ne 7, 3) := by decide +kernel
theorem dX4_period_87 : decode cX4_period 87 = .ok (.iload_n 3, 1) := by decide +kernel
theorem dX4_period_88 : decode cX4_period 88 = .ok (.goto 6, 3) := by decide +kernel
theorem dX4_period_91 : decode cX4_period 91 = .ok (.iload_n 2, 1) := by decide +kernel
theorem dX4_period_92 : decode cX4_period 92 = .ok (.iload_n 3, 1) := by decide +kernel
theorem dX4_period_93 : decode cX4_period 93 = .ok (.isub, 1) := by decide +kernel
theorem dX4_period_94 : decode cX4_period 94 = .ok (.ireturn, 1) := by decide +kernel
theorem dX4_period_95 : decode cX4_period 95 = .ok (.iinc 2 1, 3) := by decide +kernel
theorem dX4_period_98 : decode cX4_period 98 = .ok (.goto (-54), 3) := by decide +kernel
theorem dX4_period_101 : decode cX4_period 101 = .ok (.iconst (-1), 1) := by decide +kernel
theorem dX4_period_102 : decode cX4_period 102 = .ok (.ireturn, 1) := by decide +kernel
theorem dX4_until_0 : decode cX4_until 0 = .ok (.aload_n 0, 1) := by decide +kernel
theorem dX4_until_1 : decode cX4_until 1 = .ok (.getfield 14, 3) := by decide +kernel
theorem dX4_until_4 : decode cX4_until 4 = .ok (.iload_n 1, 1) := by decide +kernel
theorem dX4_until_5 : decode cX4_until 5 = .ok (.iload_n 2, 1) := by decide +kernel
theorem dX4_until_6 : decode cX4_until 6 = .ok (.invokevirtual 70, 3) := by decide +kernel
theorem dX4_until_9 : decode cX4_until 9 = .ok (.istore_n 3, 1) := by decide +kernel
theorem dX4_until_10 : decode cX4_until 10 = .ok (.iload_n 3, 1) := by decide +kernel
theorem dX4_until_11 : decode cX4_until 11 = .ok (.iconst (-1), 1) := by decide +kernel
theorem dX4_until_12 : decode cX4_until 12 = .ok (.if_icmp .ne 13, 3) := by decide +kernel
theorem dX4_until_15 : decode cX4_until 15 = .ok (.new 74, 3) := by decide +kernel
theorem dX4_until_18 : decode cX4_until 18 = .ok (.dup, 1) := by decide +kernel
theorem dX4_until_19 : decode cX4_until 19 = .ok (.ldc 76, 2) := by decide +kernel
theorem dX4_until_21 : decode cX4_until 21 = .ok (.invokespecial 78, 3) := by decide +kernel
theorem dX4_until_24 : decode cX4_until 24 = .ok (.athrow, 1) := by decide +kernel
theorem dX4_until_25 : decode cX4_until 25 = .ok (.aload_n 0, 1) := by decide +kernel
theorem dX4_until_26 : decode cX4_until 26 = .ok (.getfield 18, 3) := by decide +kernel
theorem dX4_until_29 : decode cX4_until 29 = .ok (.aload_n 0, 1) := by decide +kernel
theorem dX4_until_30 : decode cX4_until 30 = .ok (.getfield 14, 3) := by decide +kernel
theorem dX4_until_33 : decode cX4_until 33 = .ok (.invokevirtual 210, 3) := by decide +kernel
theorem dX4_until_36 : decode cX4_until 36 = .ok (.iconst 0, 1) := by decide +kernel
theorem dX4_until_37 : decode cX4_until 37 = .ok (.istore 4, 2) := by decide +kernel
theorem dX4_until_39 : decode cX4_until 39 = .ok (.iload 4, 2) := by decide +kernel
theorem dX4_until_41 : decode cX4_until 41 = .ok (.sipush 150, 3) := by decide +kernel
theorem dX4_until_44 : decode cX4_until 44 = .ok (.if_icmp .gt 31, 3) := by decide +kernel
theorem dX4_until_47 : decode cX4_until 47 = .ok (.aload_n 0, 1) := by decide +kernel
theorem dX4_until_48 : decode cX4_until 48 = .ok (.getfield 18, 3) := by decide +kernel
theorem dX4_until_51 : decode cX4_until 51 = .ok (.iload_n 3, 1) := by decide +kernel
theorem dX4_until_52 : decode cX4_until 52 = .ok (.invokevirtual 81, 3) := by decide +kernel
theorem dX4_until_55 : decode cX4_until 55 = .ok (.iconst 2, 1) := by decide +kernel
theorem dX4_until_56 : decode cX4_until 56 = .ok (.if_icmp .ne 6, 3) := by decide +kernel
theorem dX4_until_59 : decode cX4_until 59 = .ok (.iload 4, 2) := by decide +kernel
theorem dX4_until_61 : decode cX4_until 61 = .ok (.ireturn, 1) := by decide +kernel
theorem dX4_until_62 : decode cX4_until 62 = .ok (.aload_n 0, 1) := by decide +kernel
theorem dX4_until_63 : decode cX4_until 63 = .ok (.getfield 18, 3) := by decide +kernel
theorem dX4_until_66 : decode cX4_until 66 = .ok (.invokevirtual 150, 3) := by decide +kernel
theorem dX4_until_69 : decode cX4_until 69 = .ok (.iinc 4 1, 3) := by decide +kernel
theorem dX4_until_72 : decode cX4_until 72 = .ok (.goto (-33), 3) := by decide +kernel
theorem dX4_until_75 : decode cX4_until 75 = .ok (.iconst (-1), 1) := by decide +kernel
theorem dX4_until_76 : decode cX4_until 76 = .ok (.ireturn, 1) := by decide +kernel
theorem dX4_foresee_0 : decode cX4_foresee 0 = .ok (.iload_n 1, 1) := by decide +kernel
theorem dX4_foresee_1 : decode cX4_foresee 1 = .ok (.iconst 1, 1) := by decide +kernel
theorem dX4_foresee_2 : decode cX4_foresee 2 = .ok (.if_icmp .lt 9, 3) := by decide +kernel
theorem dX4_foresee_5 : decode cX4_foresee 5 = .ok (.iload_n 1, 1) := by decide +kernel
theorem dX4_foresee_6 : decode cX4_foresee 6 = .ok (.bipush 100, 2) := by decide +kernel
theorem dX4_foresee_8 : decode cX4_foresee 8 = .ok (.if_icmp .le 13, 3) := by decide +kernel
theorem dX4_foresee_11 : decode cX4_foresee 11 = .ok (.new 54, 3) := by decide +kernel
theorem dX4_foresee_14 : decode cX4_foresee 14 = .ok (.dup, 1) := by decide +kernel
theorem dX4_foresee_15 : decode cX4_foresee 15 = .ok (.ldc 221, 2) := by decide +kernel
theorem dX4_foresee_17 : decode cX4_foresee 17 = .ok (.invokespecial 58, 3) := by decide +kernel
theorem dX4_foresee_20 : decode cX4_foresee 20 = .ok (.athrow, 1) := by decide +kernel
theorem dX4_foresee_21 : decode cX4_foresee 21 = .ok (.iload_n 2, 1) := by decide +kernel
theorem dX4_foresee_22 : decode cX4_foresee 22 = .ok (.iconst 3, 1) := by decide +kernel
theorem dX4_foresee_23 : decode cX4_foresee 23 = .ok (.if_icmp .lt 12, 3) := by decide +kernel
theorem dX4_foresee_26 : decode cX4_foresee 26 = .ok (.iload_n 2, 1) := by decide +kernel
theorem dX4_foresee_27 : decode cX4_foresee 27 = .ok (.iconst 5, 1) := by decide +kernel
theorem dX4_foresee_28 : decode cX4_foresee 28 = .ok (.if_icmp .gt 7, 3) := by decide +kernel
theorem dX4_foresee_31 : decode cX4_foresee 31 = .ok (.iconst 1, 1) := by decide +kernel
theorem dX4_foresee_32 : decode cX4_foresee 32 = .ok (.goto 4, 3) := by decide +kernel
theorem dX4_foresee_35 : decode cX4_foresee 35 = .ok (.iconst 0, 1) := by decide +kernel
theorem dX4_foresee_36 : decode cX4_foresee 36 = .ok (.istore_n 3, 1) := by decide +kernel
theorem dX4_foresee_37 : decode cX4_foresee 37 = .ok (.iload_n 3, 1) := by decide +kernel
theorem dX4_foresee_38 : decode cX4_foresee 38 = .ok (.ifCond .ne 19, 3) := by decide +kernel
theorem dX4_foresee_41 : decode cX4_foresee 41 = .ok (.iload_n 2, 1) := by decide +kernel
theorem dX4_foresee_42 : decode cX4_foresee 42 = .ok (.bipush 9, 2) := by decide +kernel
theorem dX4_foresee_44 : decode cX4_foresee 44 = .ok (.if_icmp .eq 13, 3) := by decide +kernel
theorem dX4_foresee_47 : decode cX4_foresee 47 = .ok (.new 74, 3) := by decide +kernel
theorem dX4_foresee_50 : decode cX4_foresee 50 = .ok (.dup, 1) := by decide +kernel
theorem dX4_foresee_51 : decode cX4_foresee 51 = .ok (.ldc 223, 2) := by decide +kernel
theorem dX4_foresee_53 : decode cX4_foresee 53 = .ok (.invokespecial 78, 3) := by decide +kernel
theorem dX4_foresee_56 : decode cX4_foresee 56 = .ok (.athrow, 1) := by decide +kernel
theorem dX4_foresee_57 : decode cX4_foresee 57 = .ok (.aload_n 0, 1) := by decide +kernel
theorem dX4_foresee_58 : decode cX4_foresee 58 = .ok (.getfield 31, 3) := by decide +kernel
theorem dX4_foresee_61 : decode cX4_foresee 61 = .ok (.invokevirtual 201, 3) := by decide +kernel
theorem dX4_foresee_64 : decode cX4_foresee 64 = .ok (.istore 4, 2) := by decide +kernel
theorem dX4_foresee_66 : decode cX4_foresee 66 = .ok (.aload_n 0, 1) := by decide +kernel
theorem dX4_foresee_67 : decode cX4_foresee 67 = .ok (.getfield 18, 3) := by decide +kernel
theorem dX4_foresee_70 : decode cX4_foresee 70 = .ok (.aload_n 0, 1) := by decide +kernel
theorem dX4_foresee_71 : decode cX4_foresee 71 = .ok (.getfield 14, 3) := by decide +kernel
theorem dX4_foresee_74 : decode cX4_foresee 74 = .ok (.invokevirtual 210, 3) := by decide +kernel
theorem dX4_foresee_77 : decode cX4_foresee 77 = .ok (.iconst 0, 1) := by decide +kernel
theorem dX4_foresee_78 : decode cX4_foresee 78 = .ok (.istore 5, 2) := by decide +kernel
theorem dX4_foresee_80 : decode cX4_foresee 80 = .ok (.iload 5, 2) := by decide +kernel
theorem dX4_foresee_82 : decode cX4_foresee 82 = .ok (.iload_n 1, 1) := by decide +kernel
theorem dX4_foresee_83 : decode cX4_foresee 83 = .ok (.if_icmp .ge 32, 3) := by decide +kernel
theorem dX4_foresee_86 : decode cX4_foresee 86 = .ok (.aload_n 0, 1) := by decide +kernel
theorem dX4_foresee_87 : decode cX4_foresee 87 = .ok (.getfield 18, 3) := by decide +kernel
theorem dX4_foresee_90 : decode cX4_foresee 90 = .ok (.invokevirtual 150, 3) := by decide +kernel
theorem dX4_foresee_93 : decode cX4_foresee 93 = .ok (.iload 4, 2) := by decide +kernel
theorem dX4_foresee_95 : decode cX4_foresee 95 = .ok (.aload_n 0, 1) := by decide +kernel
theorem dX4_foresee_96 : decode cX4_foresee 96 = .ok (.getfield 31, 3) := by decide +kernel
theorem dX4_foresee_99 : decode cX4_foresee 99 = .ok (.aload_n 0, 1) := by decide +kernel
theorem dX4_foresee_100 : decode cX4_foresee 100 = .ok (.getfield 18, 3) := by decide +kernel
theorem dX4_foresee_103 : decode cX4_foresee 103 = .ok (.invokevirtual 225, 3) := by decide +kernel
theorem dX4_foresee_106 : decode cX4_foresee 106 = .ok (.iadd, 1) := by decide +kernel
theorem dX4_foresee_107 : decode cX4_foresee 107 = .ok (.istore 4, 2) := by decide +kernel
theorem dX4_foresee_109 : decode cX4_foresee 109 = .ok (.iinc 5 1, 3) := by decide +kernel
theorem dX4_foresee_112 : decode cX4_foresee 112 = .ok (.goto (-32), 3) := by decide +kernel
theorem dX4_foresee_115 : decode cX4_foresee 115 = .ok (.iload_n 3, 1) := by decide +kernel
theorem dX4_foresee_116 : decode cX4_foresee 116 = .ok (.ifCond .eq 18, 3) := by decide +kernel
theorem dX4_foresee_119 : decode cX4_foresee 119 = .ok (.aload_n 0, 1) := by decide +kernel
theorem dX4_foresee_120 : decode cX4_foresee 120 = .ok (.getfield 18, 3) := by decide +kernel
theorem dX4_foresee_123 : decode cX4_foresee 123 = .ok (.iconst 1, 1) := by decide +kernel
theorem dX4_foresee_124 : decode cX4_foresee 124 = .ok (.iload_n 2, 1) := by decide +kernel
theorem dX4_foresee_125 : decode cX4_foresee 125 = .ok (.iadd, 1) := by decide +kernel
theorem dX4_foresee_126 : decode cX4_foresee 126 = .ok (.iconst 3, 1) := by decide +kernel
theorem dX4_foresee_127 : decode cX4_foresee 127 = .ok (.isub, 1) := by decide +kernel
theorem dX4_foresee_128 : decode cX4_foresee 128 = .ok (.invokevirtual 138, 3) := by decide +kernel
theorem dX4_foresee_131 : decode cX4_foresee 131 = .ok (.goto 5, 3) := by decide +kernel
theorem dX4_foresee_134 : decode cX4_foresee 134 = .ok (.iload 4, 2) := by decide +kernel
theorem dX4_foresee_136 : decode cX4_foresee 136 = .ok (.ireturn, 1) := by decide +kernel
theorem dX4_advise_0 : decode cX4_advise 0 = .ok (.iload_n 1, 1) := by decide +kernel
theorem dX4_advise_1 : decode cX4_advise 1 = .ok (.iconst 1, 1) := by decide +kernel
theorem dX4_advise_2 : decode cX4_advise 2 = .ok (.if_icmp .lt 8, 3) := by decide +kernel
theorem dX4_advise_5 : decode cX4_advise 5 = .ok (.iload_n 1, 1) := by decide +kernel
theorem dX4_advise_6 : decode cX4_advise 6 = .ok (.iconst 4, 1) := by decide +kernel
theorem dX4_advise_7 : decode cX4_advise 7 = .ok (.if_icmp .le 13, 3) := by decide +kernel
theorem dX4_advise_10 : decode cX4_advise 10 = .ok (.new 54, 3) := by decide +kernel
theorem dX4_advise_13 : decode cX4_advise 13 = .ok (.dup, 1) := by decide +kernel
theorem dX4_advise_14 : decode cX4_advise 14 = .ok (.ldc 228, 2) := by decide +kernel
theorem dX4_advise_16 : decode cX4_advise 16 = .ok (.invokespecial 58, 3) := by decide +kernel
theorem dX4_advise_19 : decode cX4_advise 19 = .ok (.athrow, 1) := by decide +kernel
theorem dX4_advise_20 : decode cX4_advise 20 = .ok (.iconst (-1), 1) := by decide +kernel
theorem dX4_advise_21 : decode cX4_advise 21 = .ok (.istore_n 2, 1) := by decide +kernel
theorem dX4_advise_22 : decode cX4_advise 22 = .ok (.aload_n 0, 1) := by decide +kernel
theorem dX4_advise_23 : decode cX4_advise 23 = .ok (.getfield 18, 3) := by decide +kernel
theorem dX4_advise_26 : decode cX4_advise 26 = .ok (.aload_n 0, 1) := by decide +kernel
theorem dX4_advise_27 : decode cX4_advise 27 = .ok (.getfield 14, 3) := by decide +kernel
theorem dX4_advise_30 : decode cX4_advise 30 = .ok (.invokevirtual 210, 3) := by decide +kernel
theorem dX4_advise_33 : decode cX4_advise 33 = .ok (.aload_n 0, 1) := by decide +kernel
theorem dX4_advise_34 : decode cX4_advise 34 = .ok (.iload_n 1, 1) := by decide +kernel
theorem dX4_advise_35 : decode cX4_advise 35 = .ok (.invokevirtual 230, 3) := by decide +kernel
theorem dX4_advise_38 : decode cX4_advise 38 = .ok (.istore_n 3, 1) := by decide +kernel
theorem dX4_advise_39 : decode cX4_advise 39 = .ok (.iconst 0, 1) := by decide +kernel
theorem dX4_advise_40 : decode cX4_advise 40 = .ok (.istore 4, 2) := by decide +kernel
theorem dX4_advise_42 : decode cX4_advise 42 = .ok (.iload 4, 2) := by decide +kernel
theorem dX4_advise_44 : decode cX4_advise 44 = .ok (.aload_n 0, 1) := by decide +kernel
theorem dX4_advise_45 : decode cX4_advise 45 = .ok (.getfield 14, 3) := by decide +kernel
theorem dX4_advise_48 : decode cX4_advise 48 = .ok (.invokevirtual 66, 3) := by decide +kernel
theorem dX4_advise_51 : decode cX4_advise 51 = .ok (.if_icmp .ge 62, 3) := by decide +kernel
theorem dX4_advise_54 : decode cX4_advise 54 = .ok (.aload_n 0, 1) := by decide +kernel
theorem dX4_advise_55 : decode cX4_advise 55 = .ok (.getfield 14, 3) := by decide +kernel
theorem dX4_advise_58 : decode cX4_advise 58 = .ok (.iload 4, 2) := by decide +kernel
theorem dX4_advise_60 : decode cX4_advise 60 = .ok (.invokevirtual 81, 3) := by decide +kernel
theorem dX4_advise_63 : decode cX4_advise 63 = .ok (.iconst 1, 1) := by decide +kernel
theorem dX4_advise_64 : decode cX4_advise 64 = .ok (.if_icmp .ne 43, 3) := by decide +kernel
theorem dX4_advise_67 : decode cX4_advise 67 = .ok (.aload_n 0, 1) := by decide +kernel
theorem dX4_advise_68 : decode cX4_advise 68 = .ok (.getfield 18, 3) := by decide +kernel
theorem dX4_advise_71 : decode cX4_advise 71 = .ok (.aload_n 0, 1) := by decide +kernel
theorem dX4_advise_72 : decode cX4_advise 72 = .ok (.getfield 14, 3) := by decide +kernel
theorem dX4_advise_75 : decode cX4_advise 75 = .ok (.invokevirtual 210, 3) := by decide +kernel
theorem dX4_advise_78 : decode cX4_advise 78 = .ok (.aload_n 0, 1) := by decide +kernel
theorem dX4_advise_79 : decode cX4_advise 79 = .ok (.getfield 18, 3) := by decide +kernel
theorem dX4_advise_82 : decode cX4_advise 82 = .ok (.iload 4, 2) := by decide +kernel
theorem dX4_advise_84 : decode cX4_advise 84 = .ok (.iconst 0, 1) := by decide +kernel
theorem dX4_advise_85 : decode cX4_advise 85 = .ok (.invokevirtual 85, 3) := by decide +kernel
theorem dX4_advise_88 : decode cX4_advise 88 = .ok (.aload_n 0, 1) := by decide +kernel
theorem dX4_advise_89 : decode cX4_advise 89 = .ok (.iload_n 1, 1) := by decide +kernel
theorem dX4_advise_90 : decode cX4_advise 90 = .ok (.invokevirtual 230, 3) := by decide +kernel
theorem dX4_advise_93 : decode cX4_advise 93 = .ok (.istore 5, 2) := by decide +kernel
theorem dX4_advise_95 : decode cX4_advise 95 = .ok (.iload 5, 2) := by decide +kernel
theorem dX4_advise_97 : decode cX4_advise 97 = .ok (.iload_n 3, 1) := by decide +kernel
theorem dX4_advise_98 : decode cX4_advise 98 = .ok (.if_icmp .ge 9, 3) := by decide +kernel
theorem dX4_advise_101 : decode cX4_advise 101 = .ok (.iload 5, 2) := by decide +kernel
theorem dX4_advise_103 : decode cX4_advise 103 = .ok (.istore_n 3, 1) := by decide +kernel
theorem dX4_advise_104 : decode cX4_advise 104 = .ok (.iload 4, 2) := by decide +kernel
theorem dX4_advise_106 : decode cX4_advise 106 = .ok (.istore_n 2, 1) := by decide +kernel
theorem dX4_advise_107 : decode cX4_advise 107 = .ok (.iinc 4 1, 3) := by decide +kernel
theorem dX4_advise_110 : decode cX4_advise 110 = .ok (.goto (-68), 3) := by decide +kernel
theorem dX4_advise_113 : decode cX4_advise 113 = .ok (.iload_n 2, 1) := by decide +kernel
theorem dX4_advise_114 : decode cX4_advise 114 = .ok (.ireturn, 1) := by decide +kernel
theorem dX4_mean_0 : decode cX4_mean 0 = .ok (.aload_n 0, 1) := by decide +kernel
theorem dX4_mean_1 : decode cX4_mean 1 = .ok (.getfield 42, 3) := by decide +kernel
theorem dX4_mean_4 : decode cX4_mean 4 = .ok (.ifCond .ne 5, 3) := by decide +kernel
theorem dX4_mean_7 : decode cX4_mean 7 = .ok (.dconst 0, 1) := by decide +kernel
theorem dX4_mean_8 : decode cX4_mean 8 = .ok (.dreturn, 1) := by decide +kernel
theorem dX4_mean_9 : decode cX4_mean 9 = .ok (.aload_n 0, 1) := by decide +kernel
theorem dX4_mean_10 : decode cX4_mean 10 = .ok (.getfield 46, 3) := by decide +kernel
theorem dX4_mean_13 : decode cX4_mean 13 = .ok (.l2d, 1) := by decide +kernel
theorem dX4_mean_14 : decode cX4_mean 14 = .ok (.aload_n 0, 1) := by decide +kernel
theorem dX4_mean_15 : decode cX4_mean 15 = .ok (.getfield 42, 3) := by decide +kernel
theorem dX4_mean_18 : decode cX4_mean 18 = .ok (.i2d, 1) := by decide +kernel
theorem dX4_mean_19 : decode cX4_mean 19 = .ok (.ddiv, 1) := by decide +kernel
theorem dX4_mean_20 : decode cX4_mean 20 = .ok (.dreturn, 1) := by decide +kernel
theorem dX4_digest_0 : decode cX4_digest 0 = .ok (.ldc2_w 233, 3) := by decide +kernel
theorem dX4_digest_3 : decode cX4_digest 3 = .ok (.lstore_n 1, 1) := by decide +kernel
theorem dX4_digest_4 : decode cX4_digest 4 = .ok (.iconst 0, 1) := by decide +kernel
theorem dX4_digest_5 : decode cX4_digest 5 = .ok (.istore_n 3, 1) := by decide +kernel
theorem dX4_digest_6 : decode cX4_digest 6 = .ok (.iload_n 3, 1) := by decide +kernel
theorem dX4_digest_7 : decode cX4_digest 7 = .ok (.bipush 10, 2) := by decide +kernel
theorem dX4_digest_9 : decode cX4_digest 9 = .ok (.if_icmp .ge 22, 3) := by decide +kernel
theorem dX4_digest_12 : decode cX4_digest 12 = .ok (.lload_n 1, 1) := by decide +kernel
theorem dX4_digest_13 : decode cX4_digest 13 = .ok (.ldc2_w 235, 3) := by decide +kernel
theorem dX4_digest_16 : decode cX4_digest 16 = .ok (.lmul, 1) := by decide +kernel
theorem dX4_digest_17 : decode cX4_digest 17 = .ok (.aload_n 0, 1) := by decide +kernel
theorem dX4_digest_18 : decode cX4_digest 18 = .ok (.iload_n 3, 1) := by decide +kernel
theorem dX4_digest_19 : decode cX4_digest 19 = .ok (.invokevirtual 237, 3) := by decide +kernel
theorem dX4_digest_22 : decode cX4_digest 22 = .ok (.i2l, 1) := by decide +kernel
theorem dX4_digest_23 : decode cX4_digest 23 = .ok (.ladd, 1) := by decide +kernel
theorem dX4_digest_24 : decode cX4_digest 24 = .ok (.lstore_n 1, 1) := by decide +kernel
theorem dX4_digest_25 : decode cX4_digest 25 = .ok (.iinc 3 1, 3) := by decide +kernel
theorem dX4_digest_28 : decode cX4_digest 28 = .ok (.goto (-22), 3) := by decide +kernel
theorem dX4_digest_31 : decode cX4_digest 31 = .ok (.iconst 0, 1) := by decide +kernel
theorem dX4_digest_32 : decode cX4_digest 32 = .ok (.istore_n 3, 1) := by decide +kernel
theorem dX4_digest_33 : decode cX4_digest 33 = .ok (.iload_n 3, 1) := by decide +kernel
theorem dX4_digest_34 : decode cX4_digest 34 = .ok (.aload_n 0, 1) := by decide +kernel
theorem dX4_digest_35 : decode cX4_digest 35 = .ok (.getfield 14, 3) := by decide +kernel
theorem dX4_digest_38 : decode cX4_digest 38 = .ok (.invokevirtual 191, 3) := by decide +kernel
theorem dX4_digest_41 : decode cX4_digest 41 = .ok (.if_icmp .ge 62, 3) := by decide +kernel
theorem dX4_digest_44 : decode cX4_digest 44 = .ok (.iconst 0, 1) := by decide +kernel
theorem dX4_digest_45 : decode cX4_digest 45 = .ok (.istore 4, 2) := by decide +kernel
theorem dX4_digest_47 : decode cX4_digest 47 = .ok (.iload 4, 2) := by decide +kernel
theorem dX4_digest_49 : decode cX4_digest 49 = .ok (.aload_n 0, 1) := by decide +kernel
theorem dX4_digest_50 : decode cX4_digest 50 = .ok (.getfield 14, 3) := by decide +kernel
theorem dX4_digest_53 : decode cX4_digest 53 = .ok (.invokevirtual 188, 3) := by decide +kernel
theorem dX4_digest_56 : decode cX4_digest 56 = .ok (.if_icmp .ge 41, 3) := by decide +kernel
theorem dX4_digest_59 : decode cX4_digest 59 = .ok (.iconst 0, 1) := by decide +kernel
theorem dX4_digest_60 : decode cX4_digest 60 = .ok (.istore 5, 2) := by decide +kernel
theorem dX4_digest_62 : decode cX4_digest 62 = .ok (.iload 5, 2) := by decide +kernel
theorem dX4_digest_64 : decode cX4_digest 64 = .ok (.iconst 5, 1) := by decide +kernel
theorem dX4_digest_65 : decode cX4_digest 65 = .ok (.if_icmp .ge 26, 3) := by decide +kernel
theorem dX4_digest_68 : decode cX4_digest 68 = .ok (.lload_n 1, 1) := by decide +kernel
theorem dX4_digest_69 : decode cX4_digest 69 = .ok (.ldc2_w 235, 3) := by decide +kernel
theorem dX4_digest_72 : decode cX4_digest 72 = .ok (.lmul, 1) := by decide +kernel
theorem dX4_digest_73 : decode cX4_digest 73 = .ok (.aload_n 0, 1) := by decide +kernel
theorem dX4_digest_74 : decode cX4_digest 74 = .ok (.iload 4, 2) := by decide +kernel
theorem dX4_digest_76 : decode cX4_digest 76 = .ok (.iload_n 3, 1) := by decide +kernel
theorem dX4_digest_77 : decode cX4_digest 77 = .ok (.iload 5, 2) := by decide +kernel
theorem dX4_digest_79 : decode cX4_digest 79 = .ok (.invokevirtual 240, 3) := by decide +kernel
theorem dX4_digest_82 : decode cX4_digest 82 = .ok (.i2l, 1) := by decide +kernel
theorem dX4_digest_83 : decode cX4_digest 83 = .ok (.ladd, 1) := by decide +kernel
theorem dX4_digest_84 : decode cX4_digest 84 = .ok (.lstore_n 1, 1) := by decide +kernel
theorem dX4_digest_85 : decode cX4_digest 85 = .ok (.iinc 5 1, 3) := by decide +kernel
theorem dX4_digest_88 : decode cX4_digest 88 = .ok (.goto (-26), 3) := by decide +kernel
theorem dX4_digest_91 : decode cX4_digest 91 = .ok (.iinc 4 1, 3) := by decide +kernel
theorem dX4_digest_94 : decode cX4_digest 94 = .ok (.goto (-47), 3) := by decide +kernel
theorem dX4_digest_97 : decode cX4_digest 97 = .ok (.iinc 3 1, 3) := by decide +kernel
theorem dX4_digest_100 : decode cX4_digest 100 = .ok (.goto (-67), 3) := by decide +kernel
theorem dX4_digest_103 : decode cX4_digest 103 = .ok (.iconst 0, 1) := by decide +kernel
theorem dX4_digest_104 : decode cX4_digest 104 = .ok (.istore_n 3, 1) := by decide +kernel
theorem dX4_digest_105 : decode cX4_digest 105 = .ok (.iload_n 3, 1) := by decide +kernel
theorem dX4_digest_106 : decode cX4_digest 106 = .ok (.aload_n 0, 1) := by decide +kernel
theorem dX4_digest_107 : decode cX4_digest 107 = .ok (.getfield 31, 3) := by decide +kernel
theorem dX4_digest_110 : decode cX4_digest 110 = .ok (.invokevirtual 141, 3) := by decide +kernel
theorem dX4_digest_113 : decode cX4_digest 113 = .ok (.if_icmp .ge 39, 3) := by decide +kernel
theorem dX4_digest_116 : decode cX4_digest 116 = .ok (.iconst 0, 1) := by decide +kernel
theorem dX4_digest_117 : decode cX4_digest 117 = .ok (.istore 4, 2) := by decide +kernel
theorem dX4_digest_119 : decode cX4_digest 119 = .ok (.iload 4, 2) := by decide +kernel
theorem dX4_digest_121 : decode cX4_digest 121 = .ok (.iconst 4, 1) := by decide +kernel
theorem dX4_digest_122 : decode cX4_digest 122 = .ok (.if_icmp .ge 24, 3) := by decide +kernel
theorem dX4_digest_125 : decode cX4_digest 125 = .ok (.lload_n 1, 1) := by decide +kernel
theorem dX4_digest_126 : decode cX4_digest 126 = .ok (.ldc2_w 235, 3) := by decide +kernel
theorem dX4_digest_129 : decode cX4_digest 129 = .ok (.lmul, 1) := by decide +kernel
theorem dX4_digest_130 : decode cX4_digest 130 = .ok (.aload_n 0, 1) := by decide +kernel
theorem dX4_digest_131 : decode cX4_digest 131 = .ok (.iload_n 3, 1) := by decide +kernel
theorem dX4_digest_132 : decode cX4_digest 132 = .ok (.iload 4, 2) := by decide +kernel
theorem dX4_digest_134 : decode cX4_digest 134 = .ok (.invokevirtual 244, 3) := by decide +kernel
theorem dX4_digest_137 : decode cX4_digest 137 = .ok (.i2l, 1) := by decide +kernel
theorem dX4_digest_138 : decode cX4_digest 138 = .ok (.ladd, 1) := by decide +kernel
theorem dX4_digest_139 : decode cX4_digest 139 = .ok (.lstore_n 1, 1) := by decide +kernel
theorem dX4_digest_140 : decode cX4_digest 140 = .ok (.iinc 4 1, 3) := by decide +kernel
theorem dX4_digest_143 : decode cX4_digest 143 = .ok (.goto (-24), 3) := by decide +kernel
theorem dX4_digest_146 : decode cX4_digest 146 = .ok (.iinc 3 1, 3) := by decide +kernel
theorem dX4_digest_149 : decode cX4_digest 149 = .ok (.goto (-44), 3) := by decide +kernel
theorem dX4_digest_152 : decode cX4_digest 152 = .ok (.lload_n 1, 1) := by decide +kernel
theorem dX4_digest_153 : decode cX4_digest 153 = .ok (.ldc2_w 235, 3) := by decide +kernel
theorem dX4_digest_156 : decode cX4_digest 156 = .ok (.lmul, 1) := by decide +kernel
theorem dX4_digest_157 : decode cX4_digest 157 = .ok (.aload_n 0, 1) := by decide +kernel
theorem dX4_digest_158 : decode cX4_digest 158 = .ok (.getfield 46, 3) := by decide +kernel
theorem dX4_digest_161 : decode cX4_digest 161 = .ok (.ladd, 1) := by decide +kernel
theorem dX4_digest_162 : decode cX4_digest 162 = .ok (.lreturn, 1) := by decide +kernel
theorem dX4_isSide_0 : decode cX4_isSide 0 = .ok (.iload_n 0, 1) := by decide +kernel
theorem dX4_isSide_1 : decode cX4_isSide 1 = .ok (.iconst 3, 1) := by decide +kernel
theorem dX4_isSide_2 : decode cX4_isSide 2 = .ok (.if_icmp .lt 13, 3) := by decide +kernel
theorem dX4_isSide_5 : decode cX4_isSide 5 = .ok (.iload_n 0, 1) := by decide +kernel
theorem dX4_isSide_6 : decode cX4_isSide 6 = .ok (.bipush 10, 2) := by decide +kernel
theorem dX4_isSide_8 : decode cX4_isSide 8 = .ok (.if_icmp .gt 7, 3) := by decide +kernel
theorem dX4_isSide_11 : decode cX4_isSide 11 = .ok (.iconst 1, 1) := by decide +kernel
theorem dX4_isSide_12 : decode cX4_isSide 12 = .ok (.goto 4, 3) := by decide +kernel
theorem dX4_isSide_15 : decode cX4_isSide 15 = .ok (.iconst 0, 1) := by decide +kernel
theorem dX4_isSide_16 : decode cX4_isSide 16 = .ok (.ireturn, 1) := by decide +kernel
theorem dX4_turned_0 : decode cX4_turned 0 = .ok (.iload_n 0, 1) := by decide +kernel
theorem dX4_turned_1 : decode cX4_turned 1 = .ok (.iconst 3, 1) := by decide +kernel
theorem dX4_turned_2 : decode cX4_turned 2 = .ok (.irem, 1) := by decide +kernel
theorem dX4_turned_3 : decode cX4_turned 3 = .ok (.istore_n 2, 1) := by decide +kernel
theorem dX4_turned_4 : decode cX4_turned 4 = .ok (.iload_n 0, 1) := by decide +kernel
theorem dX4_turned_5 : decode cX4_turned 5 = .ok (.iconst 3, 1) := by decide +kernel
theorem dX4_turned_6 : decode cX4_turned 6 = .ok (.idiv, 1) := by decide +kernel
theorem dX4_turned_7 : decode cX4_turned 7 = .ok (.istore_n 3, 1) := by decide +kernel
theorem dX4_turned_8 : decode cX4_turned 8 = .ok (.iconst 0, 1) := by decide +kernel
theorem dX4_turned_9 : decode cX4_turned 9 = .ok (.istore 4, 2) := by decide +kernel
theorem dX4_turned_11 : decode cX4_turned 11 = .ok (.iload 4, 2) := by decide +kernel
theorem dX4_turned_13 : decode cX4_turned 13 = .ok (.iload_n 1, 1) := by decide +kernel
theorem dX4_turned_14 : decode cX4_turned 14 = .ok (.if_icmp .ge 19, 3) := by decide +kernel
theorem dX4_turned_17 : decode cX4_turned 17 = .ok (.iconst 2, 1) := by decide +kernel
theorem dX4_turned_18 : decode cX4_turned 18 = .ok (.iload_n 3, 1) := by decide +kernel
theorem dX4_turned_19 : decode cX4_turned 19 = .ok (.isub, 1) := by decide +kernel
theorem dX4_turned_20 : decode cX4_turned 20 = .ok (.istore 5, 2) := by decide +kernel
theorem dX4_turned_22 : decode cX4_turned 22 = .ok (.iload_n 2, 1) := by decide +kernel
theorem dX4_turned_23 : decode cX4_turned 23 = .ok (.istore_n 3, 1) := by decide +kernel
theorem dX4_turned_24 : decode cX4_turned 24 = .ok (.iload 5, 2) := by decide +kernel
theorem dX4_turned_26 : decode cX4_turned 26 = .ok (.istore_n 2, 1) := by decide +kernel
theorem dX4_turned_27 : decode cX4_turned 27 = .ok (.iinc 4 1, 3) := by decide +kernel
theorem dX4_turned_30 : decode cX4_turned 30 = .ok (.goto (-19), 3) := by decide +kernel
theorem dX4_turned_33 : decode cX4_turned 33 = .ok (.iload_n 3, 1) := by decide +kernel
theorem dX4_turned_34 : decode cX4_turned 34 = .ok (.iconst 3, 1) := by decide +kernel
theorem dX4_turned_35 : decode cX4_turned 35 = .ok (.imul, 1) := by decide +kernel
theorem dX4_turned_36 : decode cX4_turned 36 = .ok (.iload_n 2, 1) := by decide +kernel
theorem dX4_turned_37 : decode cX4_turned 37 = .ok (.iadd, 1) := by decide +kernel
theorem dX4_turned_38 : decode cX4_turned 38 = .ok (.ireturn, 1) := by decide +kernel
theorem dX4_lay_0 : decode cX4_lay 0 = .ok (.aload_n 0, 1) := by decide +kernel
theorem dX4_lay_1 : decode cX4_lay 1 = .ok (.getfield 14, 3) := by decide +kernel
theorem dX4_lay_4 : decode cX4_lay 4 = .ok (.iload_n 1, 1) := by decide +kernel
theorem dX4_lay_5 : decode cX4_lay 5 = .ok (.iload_n 2, 1) := by decide +kernel
theorem dX4_lay_6 : decode cX4_lay 6 = .ok (.invokevirtual 70, 3) := by decide +kernel
theorem dX4_lay_9 : decode cX4_lay 9 = .ok (.istore_n 3, 1) := by decide +kernel
theorem dX4_lay_10 : decode cX4_lay 10 = .ok (.iload_n 3, 1) := by decide +kernel
theorem dX4_lay_11 : decode cX4_lay 11 = .ok (.iconst (-1), 1) := by decide +kernel
theorem dX4_lay_12 : decode cX4_lay 12 = .ok (.if_icmp .eq 14, 3) := by decide +kernel
theorem dX4_lay_15 : decode cX4_lay 15 = .ok (.aload_n 0, 1) := by decide +kernel
theorem dX4_lay_16 : decode cX4_lay 16 = .ok (.getfield 14, 3) := by decide +kernel
theorem dX4_lay_19 : decode cX4_lay 19 = .ok (.iload_n 3, 1) := by decide +kernel
theorem dX4_lay_20 : decode cX4_lay 20 = .ok (.invokevirtual 81, 3) := by decide +kernel
theorem dX4_lay_23 : decode cX4_lay 23 = .ok (.ifCond .eq 5, 3) := by decide +kernel
theorem dX4_lay_26 : decode cX4_lay 26 = .ok (.iconst 0, 1) := by decide +kernel
theorem dX4_lay_27 : decode cX4_lay 27 = .ok (.ireturn, 1) := by decide +kernel
theorem dX4_lay_28 : decode cX4_lay 28 = .ok (.aload_n 0, 1) := by decide +kernel
theorem dX4_lay_29 : decode cX4_lay 29 = .ok (.getfield 14, 3) := by decide +kernel
theorem dX4_lay_32 : decode cX4_lay 32 = .ok (.iload_n 3, 1) := by decide +kernel
theorem dX4_lay_33 : decode cX4_lay 33 = .ok (.iconst 1, 1) := by decide +kernel
theorem dX4_lay_34 : decode cX4_lay 34 = .ok (.invokevirtual 85, 3) := by decide +kernel
theorem dX4_lay_37 : decode cX4_lay 37 = .ok (.iconst 1, 1) := by decide +kernel
theorem dX4_lay_38 : decode cX4_lay 38 = .ok (.ireturn, 1) := by decide +kernel
theorem dX4_headsOfTrial_0 : decode cX4_headsOfTrial 0 = .ok (.iconst 0, 1) := by decide +kernel
theorem dX4_headsOfTrial_1 : decode cX4_headsOfTrial 1 = .ok (.istore_n 2, 1) := by decide +kernel
theorem dX4_headsOfTrial_2 : decode cX4_headsOfTrial 2 = .ok (.iload_n 2, 1) := by decide +kernel
theorem dX4_headsOfTrial_3 : decode cX4_headsOfTrial 3 = .ok (.iload_n 1, 1) := by decide +kernel
theorem dX4_headsOfTrial_4 : decode cX4_headsOfTrial 4 = .ok (.if_icmp .ge 16, 3) := by decide +kernel
theorem dX4_headsOfTrial_7 : decode cX4_headsOfTrial 7 = .ok (.aload_n 0, 1) := by decide +kernel
theorem dX4_headsOfTrial_8 : decode cX4_headsOfTrial 8 = .ok (.getfield 18, 3) := by decide +kernel
theorem dX4_headsOfTrial_11 : decode cX4_headsOfTrial 11 = .ok (.invokevirtual 150, 3) := by decide +kernel
theorem dX4_headsOfTrial_14 : decode cX4_headsOfTrial 14 = .ok (.iinc 2 1, 3) := by decide +kernel
theorem dX4_headsOfTrial_17 : decode cX4_headsOfTrial 17 = .ok (.goto (-15), 3) := by decide +kernel
theorem dX4_headsOfTrial_20 : decode cX4_headsOfTrial 20 = .ok (.aload_n 0, 1) := by decide +kernel
theorem dX4_headsOfTrial_21 : decode cX4_headsOfTrial 21 = .ok (.getfield 18, 3) := by decide +kernel
theorem dX4_headsOfTrial_24 : decode cX4_headsOfTrial 24 = .ok (.iconst 2, 1) := by decide +kernel
theorem dX4_headsOfTrial_25 : decode cX4_headsOfTrial 25 = .ok (.invokevirtual 138, 3) := by decide +kernel
theorem dX4_headsOfTrial_28 : decode cX4_headsOfTrial 28 = .ok (.ireturn, 1) := by decide +kernel
set_option maxRecDepth 20000 in
theorem ggX4_init_X0_init : GoodIn wsX4_init wsX0_init := goodIn_r _ [25, 26, 2, 3, 27, 28, 29, 30, 31, 54, 55, 56, 57] (by decide +kernel) (by decide +kernel)
set_option maxRecDepth 20000 in
theorem gX4_init_X0_init : GoodIn wsX4_init (wsX0_init) := ggX4_init_X0_init
set_option maxRecDepth 20000 in
theorem ggX4_init_X3_init : GoodIn wsX4_init wsX3_init := goodIn_r _ [34, 35, 2, 3, 29, 36, 37, 38, 65, 66, 67] (by decide +kernel) (by decide +kernel)
set_option maxRecDepth 20000 in
theorem gX4_init_X3_init : GoodIn wsX4_init (wsX3_init) := ggX4_init_X3_init
set_option maxRecDepth 20000 in
theorem ggX4_init_X1_init : GoodIn wsX4_init wsX1_init := goodIn_r _ [41, 42, 2, 3, 43, 29, 44, 45, 46, 47, 68, 69, 70, 71, 72] (by decide +kernel) (by decide +kernel)
set_option maxRecDepth 20000 in
theorem gX4_init_X1_init : GoodIn wsX4_init (wsX1_init) := ggX4_init_X1_init
set_option maxRecDepth 20000 in
theorem ggX4_init_X2_init : GoodIn wsX4_init wsX2_init := goodIn_r _ [50, 51, 2, 3, 52, 53, 73] (by decide +kernel) (by decide +kernel)
set_option maxRecDepth 20000 in
theorem gX4_init_X2_init : GoodIn wsX4_init (wsX2_init) := ggX4_init_X2_init
set_option maxRecDepth 20000 in
theorem ggX4_setBoard_X4_isSide : GoodIn wsX4_setBoard wsX4_isSide := goodIn_r _ [8] (by decide +kernel) (by decide +kernel)
set_option maxRecDepth 20000 in
theorem gX4_setBoard_X4_isSide : GoodIn wsX4_setBoard (va_wsS RX4 50 yX4_isSide wsX4_isSide) := goodIn_app (goodIn_of _ (by decide +kernel)) ggX4_setBoard_X4_isSide
set_option maxRecDepth 20000 in
theorem ggX4_setBoard_X0_clear : GoodIn wsX4_setBoard wsX0_clear := goodIn_r _ [13, 14, 15, 16, 17, 18, 19, 20, 38, 39, 40, 41] (by decide +kernel) (by decide +kernel)
set_option maxRecDepth 20000 in
theorem gX4_setBoard_X0_clear : GoodIn wsX4_setBoard (wsV RX4 61 RX0 yX0_clear wsX0_clear) := goodIn_app (goodIn_of _ (by decide +kernel)) ggX4_setBoard_X0_clear
set_option maxRecDepth 20000 in
theorem ggX4_setBoard_X1_clear : GoodIn wsX4_setBoard wsX1_clear := goodIn_r _ [25, 26, 42, 43, 44, 45, 46] (by decide +kernel) (by decide +kernel)
set_option maxRecDepth 20000 in
theorem gX4_setBoard_X1_clear : GoodIn wsX4_setBoard (wsV RX4 64 RX1 yX1_clear wsX1_clear) := goodIn_app (goodIn_of _ (by decide +kernel)) ggX4_setBoard_X1_clear
set_option maxRecDepth 20000 in
theorem ggX4_setBoard_X0_size : GoodIn wsX4_setBoard wsX0_size := goodIn_r _ [30, 14, 15, 38, 39, 40, 41] (by decide +kernel) (by decide +kernel)
set_option maxRecDepth 20000 in
theorem gX4_setBoard_X0_size : GoodIn wsX4_setBoard (wsV RX4 66 RX0 yX0_size wsX0_size) := goodIn_app (goodIn_of _ (by decide +kernel)) ggX4_setBoard_X0_size
set_option maxRecDepth 20000 in
theorem ggX4_set_X0_cell : GoodIn wsX4_set wsX0_cell := goodIn_r _ [10, 11, 12, 32, 33, 34, 35] (by decide +kernel) (by decide +kernel)
set_option maxRecDepth 20000 in
theorem gX4_set_X0_cell : GoodIn wsX4_set (wsV RX4 70 RX0 yX0_cell wsX0_cell) := goodIn_app (goodIn_of _ (by decide +kernel)) ggX4_set_X0_cell
set_option maxRecDepth 20000 in
theorem ggX4_set_X0_kind : GoodIn wsX4_set wsX0_kind := goodIn_r _ [16, 17, 18, 19, 9, 20, 32, 33, 34, 35] (by decide +kernel) (by decide +kernel)
set_option maxRecDepth 20000 in
theorem gX4_set_X0_kind : GoodIn wsX4_set (wsV RX4 81 RX0 yX0_kind wsX0_kind) := goodIn_app (goodIn_of _ (by decide +kernel)) ggX4_set_X0_kind
set_option maxRecDepth 20000 in
theorem ggX4_set_X0_put : GoodIn wsX4_set wsX0_put := goodIn_r _ [24, 17, 18, 19, 9, 20, 32, 33, 34, 35] (by decide +kernel) (by decide +kernel)
set_option maxRecDepth 20000 in
theorem gX4_set_X0_put : GoodIn wsX4_set (wsV RX4 85 RX0 yX0_put wsX0_put) := goodIn_app (goodIn_of _ (by decide +kernel)) ggX4_set_X0_put
set_option maxRecDepth 20000 in
theorem ggX4_line_X0_cell : GoodIn wsX4_line wsX0_cell := goodIn_r _ [17, 18, 19, 48, 49, 50, 51] (by decide +kernel) (by decide +kernel)
set_option maxRecDepth 20000 in
theorem gX4_line_X0_cell : GoodIn wsX4_line (wsV RX4 70 RX0 yX0_cell wsX0_cell) := goodIn_app (goodIn_of _ (by decide +kernel)) ggX4_line_X0_cell
set_option maxRecDepth 20000 in
theorem ggX4_line_J6_compare_7cf53 : GoodIn wsX4_line wsJ6_compare_7cf53 := goodIn_r _ [23] (by decide +kernel) (by decide +kernel)
set_option maxRecDepth 20000 in
theorem gX4_line_J6_compare_7cf53 : GoodIn wsX4_line (va_wsS RX4 95 yJ6_compare_7cf53 wsJ6_compare_7cf53) := goodIn_app (goodIn_of _ (by decide +kernel)) ggX4_line_J6_compare_7cf53
set_option maxRecDepth 20000 in
theorem ggX4_line_X4_lay : GoodIn wsX4_line wsX4_lay := goodIn_r _ [28, 5, 13, 14, 15, 16, 17, 18, 19, 29, 30, 31, 32, 33, 34, 35, 36, 37, 38, 39, 40, 41, 42, 43, 44, 45, 46, 47, 48, 49, 50, 51] (by decide +kernel) (by decide +kernel)
set_option maxRecDepth 20000 in
theorem gX4_line_X4_lay : GoodIn wsX4_line (wsV RX4 103 RX4 yX4_lay wsX4_lay) := goodIn_app (goodIn_of _ (by decide +kernel)) ggX4_line_X4_lay
set_option maxRecDepth 20000 in
theorem ggX4_ring_X0_holds : GoodIn wsX4_ring wsX0_holds := goodIn_r _ [10, 11, 12, 13, 14, 15, 9, 16, 42, 43, 44, 45] (by decide +kernel) (by decide +kernel)
set_option maxRecDepth 20000 in
theorem gX4_ring_X0_holds : GoodIn wsX4_ring (wsV RX4 108 RX0 yX0_holds wsX0_holds) := goodIn_app (goodIn_of _ (by decide +kernel)) ggX4_ring_X0_holds
set_option maxRecDepth 20000 in
theorem ggX4_ring_X4_lay : GoodIn wsX4_ring wsX4_lay := goodIn_r _ [21, 5, 22, 14, 15, 9, 16, 11, 12, 23, 24, 25, 26, 27, 28, 29, 30, 31, 32, 33, 34, 35, 36, 37, 38, 39, 40, 41, 42, 43, 44, 45] (by decide +kernel) (by decide +kernel)
set_option maxRecDepth 20000 in
theorem gX4_ring_X4_lay : GoodIn wsX4_ring (wsV RX4 103 RX4 yX4_lay wsX4_lay) := goodIn_app (goodIn_of _ (by decide +kernel)) ggX4_ring_X4_lay
set_option maxRecDepth 20000 in
theorem ggX4_stamp_X0_holds : GoodIn wsX4_stamp wsX0_holds := goodIn_r _ [9, 10, 11, 12, 13, 14, 8, 15, 40, 41, 42, 43] (by decide +kernel) (by decide +kernel)
set_option maxRecDepth 20000 in
theorem gX4_stamp_X0_holds : GoodIn wsX4_stamp (wsV RX4 108 RX0 yX0_holds wsX0_holds) := goodIn_app (goodIn_of _ (by decide +kernel)) ggX4_stamp_X0_holds
set_option maxRecDepth 20000 in
theorem ggX4_stamp_X4_turned : GoodIn wsX4_stamp wsX4_turned := goodIn_r _ [19] (by decide +kernel) (by decide +kernel)
set_option maxRecDepth 20000 in
theorem gX4_stamp_X4_turned : GoodIn wsX4_stamp (va_wsS RX4 118 yX4_turned wsX4_turned) := goodIn_app (goodIn_of _ (by decide +kernel)) ggX4_stamp_X4_turned
set_option maxRecDepth 20000 in
theorem ggX4_stamp_X0_cell : GoodIn wsX4_stamp wsX0_cell := goodIn_r _ [15, 10, 11, 40, 41, 42, 43] (by decide +kernel) (by decide +kernel)
set_option maxRecDepth 20000 in
theorem gX4_stamp_X0_cell : GoodIn wsX4_stamp (wsV RX4 70 RX0 yX0_cell wsX0_cell) := goodIn_app (goodIn_of _ (by decide +kernel)) ggX4_stamp_X0_cell
set_option maxRecDepth 20000 in
theorem ggX4_stamp_X0_kind : GoodIn wsX4_stamp wsX0_kind := goodIn_r _ [24, 25, 26, 27, 8, 28, 40, 41, 42, 43] (by decide +kernel) (by decide +kernel)
set_option maxRecDepth 20000 in
theorem gX4_stamp_X0_kind : GoodIn wsX4_stamp (wsV RX4 81 RX0 yX0_kind wsX0_kind) := goodIn_app (goodIn_of _ (by decide +kernel)) ggX4_stamp_X0_kind
set_option maxRecDepth 20000 in
theorem ggX4_stamp_X0_put : GoodIn wsX4_stamp wsX0_put := goodIn_r _ [32, 25, 26, 27, 8, 28, 40, 41, 42, 43] (by decide +kernel) (by decide +kernel)
set_option maxRecDepth 20000 in
theorem gX4_stamp_X0_put : GoodIn wsX4_stamp (wsV RX4 85 RX0 yX0_put wsX0_put) := goodIn_app (goodIn_of _ (by decide +kernel)) ggX4_stamp_X0_put
set_option maxRecDepth 20000 in
theorem ggX4_spark_X0_cell : GoodIn wsX4_spark wsX0_cell := goodIn_r _ [12, 13, 14, 43, 44, 45, 46] (by decide +kernel) (by decide +kernel)
set_option maxRecDepth 20000 in
theorem gX4_spark_X0_cell : GoodIn wsX4_spark (wsV RX4 70 RX0 yX0_cell wsX0_cell) := goodIn_app (goodIn_of _ (by decide +kernel)) ggX4_spark_X0_cell
set_option maxRecDepth 20000 in
theorem ggX4_spark_X0_kind : GoodIn wsX4_spark wsX0_kind := goodIn_r _ [18, 19, 20, 21, 11, 22, 43, 44, 45, 46] (by decide +kernel) (by decide +kernel)
set_option maxRecDepth 20000 in
theorem gX4_spark_X0_kind : GoodIn wsX4_spark (wsV RX4 81 RX0 yX0_kind wsX0_kind) := goodIn_app (goodIn_of _ (by decide +kernel)) ggX4_spark_X0_kind
set_option maxRecDepth 20000 in
theorem ggX4_spark_X0_put : GoodIn wsX4_spark wsX0_put := goodIn_r _ [26, 19, 20, 21, 11, 22, 43, 44, 45, 46] (by decide +kernel) (by decide +kernel)
set_option maxRecDepth 20000 in
theorem gX4_spark_X0_put : GoodIn wsX4_spark (wsV RX4 85 RX0 yX0_put wsX0_put) := goodIn_app (goodIn_of _ (by decide +kernel)) ggX4_spark_X0_put
set_option maxRecDepth 20000 in
theorem ggX4_spark_X0_many : GoodIn wsX4_spark wsX0_many := goodIn_r _ [30, 31, 32, 33, 11, 34, 13, 14, 35, 16, 17, 18, 19, 20, 21, 22, 43, 44, 45, 46] (by decide +kernel) (by decide +kernel)
set_option maxRecDepth 20000 in
theorem gX4_spark_X0_many : GoodIn wsX4_spark (wsV RX4 138 RX0 yX0_many wsX0_many) := goodIn_app (goodIn_of _ (by decide +kernel)) ggX4_spark_X0_many
set_option maxRecDepth 20000 in
theorem ggX4_lamp_X0_cell : GoodIn wsX4_lamp wsX0_cell := goodIn_r _ [11, 12, 13, 35, 36, 37, 38] (by decide +kernel) (by decide +kernel)
set_option maxRecDepth 20000 in
theorem gX4_lamp_X0_cell : GoodIn wsX4_lamp (wsV RX4 70 RX0 yX0_cell wsX0_cell) := goodIn_app (goodIn_of _ (by decide +kernel)) ggX4_lamp_X0_cell
set_option maxRecDepth 20000 in
theorem ggX4_lamp_X1_many : GoodIn wsX4_lamp wsX1_many := goodIn_r _ [18, 19, 39, 40, 41, 42, 43] (by decide +kernel) (by decide +kernel)
set_option maxRecDepth 20000 in
theorem gX4_lamp_X1_many : GoodIn wsX4_lamp (wsV RX4 141 RX1 yX1_many wsX1_many) := goodIn_app (goodIn_of _ (by decide +kernel)) ggX4_lamp_X1_many
set_option maxRecDepth 20000 in
theorem ggX4_lamp_X1_add : GoodIn wsX4_lamp wsX1_add := goodIn_r _ [23, 19, 24, 25, 26, 27, 39, 40, 41, 42, 43] (by decide +kernel) (by decide +kernel)
set_option maxRecDepth 20000 in
theorem gX4_lamp_X1_add : GoodIn wsX4_lamp (wsV RX4 145 RX1 yX1_add wsX1_add) := goodIn_app (goodIn_of _ (by decide +kernel)) ggX4_lamp_X1_add
set_option maxRecDepth 20000 in
theorem ggX4_pass_X0_step : GoodIn wsX4_pass wsX0_step := goodIn_r _ [11, 12, 13, 14, 15, 16, 10, 17, 18, 19, 20, 21, 22, 23, 24, 25, 26, 27, 28, 29, 30, 31, 32, 33, 34, 35, 36, 37, 38, 39, 40, 41, 42, 43, 44, 45, 77, 78, 79, 80] (by decide +kernel) (by decide +kernel)
set_option maxRecDepth 20000 in
theorem gX4_pass_X0_step : GoodIn wsX4_pass (wsV RX4 150 RX0 yX0_step wsX0_step) := goodIn_app (goodIn_of _ (by decide +kernel)) ggX4_pass_X0_step
set_option maxRecDepth 20000 in
theorem ggX4_pass_X1_light : GoodIn wsX4_pass wsX1_light := goodIn_r _ [50, 51, 52, 53, 54, 55, 56, 49, 57, 58, 59, 60, 25, 26, 10, 27, 19, 18, 61, 29, 30, 31, 12, 32, 33, 34, 81, 82, 83, 84, 85, 77, 78, 79, 80] (by decide +kernel) (by decide +kernel)
set_option maxRecDepth 20000 in
theorem gX4_pass_X1_light : GoodIn wsX4_pass (wsV RX4 153 RX1 yX1_light wsX1_light) := goodIn_app (goodIn_of _ (by decide +kernel)) ggX4_pass_X1_light
set_option maxRecDepth 20000 in
theorem ggX4_pass_X0_many : GoodIn wsX4_pass wsX0_many := goodIn_r _ [65, 66, 67, 68, 10, 69, 19, 18, 28, 29, 30, 31, 12, 32, 33, 34, 77, 78, 79, 80] (by decide +kernel) (by decide +kernel)
set_option maxRecDepth 20000 in
theorem gX4_pass_X0_many : GoodIn wsX4_pass (wsV RX4 138 RX0 yX0_many wsX0_many) := goodIn_app (goodIn_of _ (by decide +kernel)) ggX4_pass_X0_many
set_option maxRecDepth 20000 in
theorem ggX4_told_X0_cell : GoodIn wsX4_told wsX0_cell := goodIn_r _ [9, 10, 11, 75, 76, 77, 78] (by decide +kernel) (by decide +kernel)
set_option maxRecDepth 20000 in
theorem gX4_told_X0_cell : GoodIn wsX4_told (wsV RX4 70 RX0 yX0_cell wsX0_cell) := goodIn_app (goodIn_of _ (by decide +kernel)) ggX4_told_X0_cell
set_option maxRecDepth 20000 in
theorem ggX4_told_X0_kind : GoodIn wsX4_told wsX0_kind := goodIn_r _ [15, 16, 17, 18, 8, 19, 75, 76, 77, 78] (by decide +kernel) (by decide +kernel)
set_option maxRecDepth 20000 in
theorem gX4_told_X0_kind : GoodIn wsX4_told (wsV RX4 81 RX0 yX0_kind wsX0_kind) := goodIn_app (goodIn_of _ (by decide +kernel)) ggX4_told_X0_kind
set_option maxRecDepth 20000 in
theorem ggX4_told_X0_headsAround : GoodIn wsX4_told wsX0_headsAround := goodIn_r _ [23, 24, 25, 26, 8, 27, 28, 6, 7, 9, 10, 11, 29, 13, 14, 15, 16, 17, 18, 19, 75, 76, 77, 78] (by decide +kernel) (by decide +kernel)
set_option maxRecDepth 20000 in
theorem gX4_told_X0_headsAround : GoodIn wsX4_told (wsV RX4 159 RX0 yX0_headsAround wsX0_headsAround) := goodIn_app (goodIn_of _ (by decide +kernel)) ggX4_told_X0_headsAround
set_option maxRecDepth 20000 in
theorem ggX4_told_X0_next : GoodIn wsX4_told wsX0_next := goodIn_r _ [32] (by decide +kernel) (by decide +kernel)
set_option maxRecDepth 20000 in
theorem gX4_told_X0_next : GoodIn wsX4_told (va_wsS RX4 162 yX0_next wsX0_next) := goodIn_app (goodIn_of _ (by decide +kernel)) ggX4_told_X0_next
set_option maxRecDepth 20000 in
theorem ggX4_told_X3_sizeOfPiece : GoodIn wsX4_told wsX3_sizeOfPiece := goodIn_r _ [37, 38, 39, 40, 36, 41, 42, 43, 44, 45, 46, 47, 48, 49, 50, 51, 52, 53, 54, 55, 56, 57, 6, 7, 8, 9, 10, 11, 58, 18, 19, 59, 13, 14, 15, 16, 17, 60, 61, 62, 63, 79, 80, 81, 75, 76, 77, 78] (by decide +kernel) (by decide +kernel)
set_option maxRecDepth 20000 in
theorem gX4_told_X3_sizeOfPiece : GoodIn wsX4_told (wsV RX4 165 RX3 yX3_sizeOfPiece wsX3_sizeOfPiece) := goodIn_app (goodIn_of _ (by decide +kernel)) ggX4_told_X3_sizeOfPiece
set_option maxRecDepth 20000 in
theorem ggX4_told_X0_wiredAround : GoodIn wsX4_told wsX0_wiredAround := goodIn_r _ [67, 24, 25, 26, 8, 27, 28, 6, 7, 9, 10, 11, 29, 13, 14, 15, 16, 17, 18, 19, 75, 76, 77, 78] (by decide +kernel) (by decide +kernel)
set_option maxRecDepth 20000 in
theorem gX4_told_X0_wiredAround : GoodIn wsX4_told (wsV RX4 169 RX0 yX0_wiredAround wsX0_wiredAround) := goodIn_app (goodIn_of _ (by decide +kernel)) ggX4_told_X0_wiredAround
set_option maxRecDepth 20000 in
theorem ggX4_about_X1_many : GoodIn wsX4_about wsX1_many := goodIn_r _ [8, 9, 41, 42, 43, 44, 45] (by decide +kernel) (by decide +kernel)
set_option maxRecDepth 20000 in
theorem gX4_about_X1_many : GoodIn wsX4_about (wsV RX4 141 RX1 yX1_many wsX1_many) := goodIn_app (goodIn_of _ (by decide +kernel)) ggX4_about_X1_many
set_option maxRecDepth 20000 in
theorem ggX4_about_X1_column : GoodIn wsX4_about wsX1_column := goodIn_r _ [13, 14, 15, 16, 17, 7, 18, 9, 41, 42, 43, 44, 45] (by decide +kernel) (by decide +kernel)
set_option maxRecDepth 20000 in
theorem gX4_about_X1_column : GoodIn wsX4_about (wsV RX4 174 RX1 yX1_column wsX1_column) := goodIn_app (goodIn_of _ (by decide +kernel)) ggX4_about_X1_column
set_option maxRecDepth 20000 in
theorem ggX4_about_X1_row : GoodIn wsX4_about wsX1_row := goodIn_r _ [22, 23, 15, 16, 17, 7, 18, 9, 41, 42, 43, 44, 45] (by decide +kernel) (by decide +kernel)
set_option maxRecDepth 20000 in
theorem gX4_about_X1_row : GoodIn wsX4_about (wsV RX4 177 RX1 yX1_row wsX1_row) := goodIn_app (goodIn_of _ (by decide +kernel)) ggX4_about_X1_row
set_option maxRecDepth 20000 in
theorem ggX4_about_X1_lit : GoodIn wsX4_about wsX1_lit := goodIn_r _ [27, 28, 15, 16, 17, 7, 18, 9, 41, 42, 43, 44, 45] (by decide +kernel) (by decide +kernel)
set_option maxRecDepth 20000 in
theorem gX4_about_X1_lit : GoodIn wsX4_about (wsV RX4 180 RX1 yX1_lit wsX1_lit) := goodIn_app (goodIn_of _ (by decide +kernel)) ggX4_about_X1_lit
set_option maxRecDepth 20000 in
theorem ggX4_about_X1_latest : GoodIn wsX4_about wsX1_latest := goodIn_r _ [32, 33, 15, 16, 17, 7, 18, 9, 41, 42, 43, 44, 45] (by decide +kernel) (by decide +kernel)
set_option maxRecDepth 20000 in
theorem gX4_about_X1_latest : GoodIn wsX4_about (wsV RX4 183 RX1 yX1_latest wsX1_latest) := goodIn_app (goodIn_of _ (by decide +kernel)) ggX4_about_X1_latest
set_option maxRecDepth 20000 in
theorem ggX4_count_X0_columns : GoodIn wsX4_count wsX0_columns := goodIn_r _ [11, 12, 96, 97, 98, 99] (by decide +kernel) (by decide +kernel)
set_option maxRecDepth 20000 in
theorem gX4_count_X0_columns : GoodIn wsX4_count (wsV RX4 188 RX0 yX0_columns wsX0_columns) := goodIn_app (goodIn_of _ (by decide +kernel)) ggX4_count_X0_columns
set_option maxRecDepth 20000 in
theorem ggX4_count_X0_rows : GoodIn wsX4_count wsX0_rows := goodIn_r _ [16, 17, 96, 97, 98, 99] (by decide +kernel) (by decide +kernel)
set_option maxRecDepth 20000 in
theorem gX4_count_X0_rows : GoodIn wsX4_count (wsV RX4 191 RX0 yX0_rows wsX0_rows) := goodIn_app (goodIn_of _ (by decide +kernel)) ggX4_count_X0_rows
set_option maxRecDepth 20000 in
theorem ggX4_count_X0_many : GoodIn wsX4_count wsX0_many := goodIn_r _ [21, 22, 23, 24, 10, 25, 12, 17, 26, 27, 28, 29, 30, 31, 32, 33, 96, 97, 98, 99] (by decide +kernel) (by decide +kernel)
set_option maxRecDepth 20000 in
theorem gX4_count_X0_many : GoodIn wsX4_count (wsV RX4 138 RX0 yX0_many wsX0_many) := goodIn_app (goodIn_of _ (by decide +kernel)) ggX4_count_X0_many
set_option maxRecDepth 20000 in
theorem ggX4_count_X3_pieces : GoodIn wsX4_count wsX3_pieces := goodIn_r _ [38, 39, 40, 41, 37, 42, 43, 44, 45, 46, 47, 48, 14, 15, 10, 16, 17, 49, 8, 9, 11, 12, 50, 51, 52, 53, 54, 55, 56, 57, 58, 59, 60, 61, 62, 63, 64, 32, 33, 65, 27, 28, 29, 30, 31, 66, 67, 68, 69, 100, 101, 102, 96, 97, 98, 99] (by decide +kernel) (by decide +kernel)
set_option maxRecDepth 20000 in
theorem gX4_count_X3_pieces : GoodIn wsX4_count (wsV RX4 194 RX3 yX3_pieces wsX3_pieces) := goodIn_app (goodIn_of _ (by decide +kernel)) ggX4_count_X3_pieces
set_option maxRecDepth 20000 in
theorem ggX4_count_X3_sizeOfLongest : GoodIn wsX4_count wsX3_sizeOfLongest := goodIn_r _ [73, 74, 75, 76, 77, 39, 40, 41, 37, 42, 43, 44, 45, 46, 47, 48, 14, 15, 10, 16, 17, 49, 8, 9, 11, 12, 50, 51, 52, 53, 54, 55, 56, 57, 58, 59, 60, 61, 62, 63, 64, 32, 33, 65, 27, 28, 29, 30, 31, 66, 67, 68, 69, 100, 101, 102, 96, 97, 98, 99] (by decide +kernel) (by decide +kernel)
set_option maxRecDepth 20000 in
theorem gX4_count_X3_sizeOfLongest : GoodIn wsX4_count (wsV RX4 198 RX3 yX3_sizeOfLongest wsX3_sizeOfLongest) := goodIn_app (goodIn_of _ (by decide +kernel)) ggX4_count_X3_sizeOfLongest
set_option maxRecDepth 20000 in
theorem ggX4_count_X1_many : GoodIn wsX4_count wsX1_many := goodIn_r _ [82, 83, 103, 104, 105, 106, 107] (by decide +kernel) (by decide +kernel)
set_option maxRecDepth 20000 in
theorem gX4_count_X1_many : GoodIn wsX4_count (wsV RX4 141 RX1 yX1_many wsX1_many) := goodIn_app (goodIn_of _ (by decide +kernel)) ggX4_count_X1_many
set_option maxRecDepth 20000 in
theorem ggX4_count_X1_litInAll : GoodIn wsX4_count wsX1_litInAll := goodIn_r _ [87, 83, 88, 103, 104, 105, 106, 107] (by decide +kernel) (by decide +kernel)
set_option maxRecDepth 20000 in
theorem gX4_count_X1_litInAll : GoodIn wsX4_count (wsV RX4 201 RX1 yX1_litInAll wsX1_litInAll) := goodIn_app (goodIn_of _ (by decide +kernel)) ggX4_count_X1_litInAll
set_option maxRecDepth 20000 in
theorem ggX4_way_X0_cell : GoodIn wsX4_way wsX0_cell := goodIn_r _ [9, 10, 11, 57, 58, 59, 60] (by decide +kernel) (by decide +kernel)
set_option maxRecDepth 20000 in
theorem gX4_way_X0_cell : GoodIn wsX4_way (wsV RX4 70 RX0 yX0_cell wsX0_cell) := goodIn_app (goodIn_of _ (by decide +kernel)) ggX4_way_X0_cell
set_option maxRecDepth 20000 in
theorem ggX4_way_X3_far : GoodIn wsX4_way wsX3_far := goodIn_r _ [16, 17, 18, 19, 15, 20, 21, 22, 23, 24, 25, 26, 27, 28, 29, 30, 31, 32, 33, 34, 35, 36, 6, 7, 8, 9, 10, 11, 37, 38, 39, 40, 41, 42, 43, 44, 45, 46, 47, 48, 49, 61, 62, 63, 57, 58, 59, 60] (by decide +kernel) (by decide +kernel)
set_option maxRecDepth 20000 in
theorem gX4_way_X3_far : GoodIn wsX4_way (wsV RX4 204 RX3 yX3_far wsX3_far) := goodIn_app (goodIn_of _ (by decide +kernel)) ggX4_way_X3_far
set_option maxRecDepth 20000 in
theorem ggX4_period_X0_copy : GoodIn wsX4_period wsX0_copy := goodIn_r _ [10, 11, 12, 13, 14, 15, 16, 17, 78, 79, 80, 81] (by decide +kernel) (by decide +kernel)
set_option maxRecDepth 20000 in
theorem gX4_period_X0_copy : GoodIn wsX4_period (wsV RX4 210 RX0 yX0_copy wsX0_copy) := goodIn_app (goodIn_of _ (by decide +kernel)) ggX4_period_X0_copy
set_option maxRecDepth 20000 in
theorem ggX4_period_X2_keep : GoodIn wsX4_period wsX2_keep := goodIn_r _ [22, 23, 24, 25, 21, 26, 27, 28, 29, 9, 30, 13, 31, 32, 33, 82, 78, 79, 80, 81] (by decide +kernel) (by decide +kernel)
set_option maxRecDepth 20000 in
theorem gX4_period_X2_keep : GoodIn wsX4_period (wsV RX4 214 RX2 yX2_keep wsX2_keep) := goodIn_app (goodIn_of _ (by decide +kernel)) ggX4_period_X2_keep
set_option maxRecDepth 20000 in
theorem ggX4_period_X0_step : GoodIn wsX4_period wsX0_step := goodIn_r _ [37, 13, 38, 39, 40, 41, 9, 42, 12, 11, 43, 44, 45, 46, 47, 48, 49, 50, 51, 28, 29, 30, 31, 32, 33, 52, 53, 54, 55, 56, 57, 58, 59, 60, 61, 62, 78, 79, 80, 81] (by decide +kernel) (by decide +kernel)
set_option maxRecDepth 20000 in
theorem gX4_period_X0_step : GoodIn wsX4_period (wsV RX4 150 RX0 yX0_step wsX0_step) := goodIn_app (goodIn_of _ (by decide +kernel)) ggX4_period_X0_step
set_option maxRecDepth 20000 in
theorem ggX4_period_X2_firstLike : GoodIn wsX4_period wsX2_firstLike := goodIn_r _ [66, 67, 68, 69, 21, 70, 23, 82] (by decide +kernel) (by decide +kernel)
set_option maxRecDepth 20000 in
theorem gX4_period_X2_firstLike : GoodIn wsX4_period (wsV RX4 218 RX2 yX2_firstLike wsX2_firstLike) := goodIn_app (goodIn_of _ (by decide +kernel)) ggX4_period_X2_firstLike
set_option maxRecDepth 20000 in
theorem ggX4_until_X0_cell : GoodIn wsX4_until wsX0_cell := goodIn_r _ [9, 10, 11, 61, 62, 63, 64] (by decide +kernel) (by decide +kernel)
set_option maxRecDepth 20000 in
theorem gX4_until_X0_cell : GoodIn wsX4_until (wsV RX4 70 RX0 yX0_cell wsX0_cell) := goodIn_app (goodIn_of _ (by decide +kernel)) ggX4_until_X0_cell
set_option maxRecDepth 20000 in
theorem ggX4_until_X0_copy : GoodIn wsX4_until wsX0_copy := goodIn_r _ [15, 10, 11, 16, 17, 18, 19, 20, 61, 62, 63, 64] (by decide +kernel) (by decide +kernel)
set_option maxRecDepth 20000 in
theorem gX4_until_X0_copy : GoodIn wsX4_until (wsV RX4 210 RX0 yX0_copy wsX0_copy) := goodIn_app (goodIn_of _ (by decide +kernel)) ggX4_until_X0_copy
set_option maxRecDepth 20000 in
theorem ggX4_until_X0_kind : GoodIn wsX4_until wsX0_kind := goodIn_r _ [24, 16, 25, 26, 8, 27, 61, 62, 63, 64] (by decide +kernel) (by decide +kernel)
set_option maxRecDepth 20000 in
theorem gX4_until_X0_kind : GoodIn wsX4_until (wsV RX4 81 RX0 yX0_kind wsX0_kind) := goodIn_app (goodIn_of _ (by decide +kernel)) ggX4_until_X0_kind
set_option maxRecDepth 20000 in
theorem ggX4_until_X0_step : GoodIn wsX4_until wsX0_step := goodIn_r _ [31, 16, 32, 33, 34, 35, 8, 36, 11, 10, 37, 38, 39, 40, 41, 6, 7, 9, 42, 22, 23, 24, 25, 26, 27, 43, 44, 45, 46, 47, 48, 49, 50, 51, 52, 53, 61, 62, 63, 64] (by decide +kernel) (by decide +kernel)
set_option maxRecDepth 20000 in
theorem gX4_until_X0_step : GoodIn wsX4_until (wsV RX4 150 RX0 yX0_step wsX0_step) := goodIn_app (goodIn_of _ (by decide +kernel)) ggX4_until_X0_step
set_option maxRecDepth 20000 in
theorem ggX4_foresee_X1_litInAll : GoodIn wsX4_foresee wsX1_litInAll := goodIn_r _ [12, 13, 14, 89, 90, 91, 92, 93] (by decide +kernel) (by decide +kernel)
set_option maxRecDepth 20000 in
theorem gX4_foresee_X1_litInAll : GoodIn wsX4_foresee (wsV RX4 201 RX1 yX1_litInAll wsX1_litInAll) := goodIn_app (goodIn_of _ (by decide +kernel)) ggX4_foresee_X1_litInAll
set_option maxRecDepth 20000 in
theorem ggX4_foresee_X0_copy : GoodIn wsX4_foresee wsX0_copy := goodIn_r _ [19, 20, 21, 22, 23, 24, 25, 26, 94, 95, 96, 97] (by decide +kernel) (by decide +kernel)
set_option maxRecDepth 20000 in
theorem gX4_foresee_X0_copy : GoodIn wsX4_foresee (wsV RX4 210 RX0 yX0_copy wsX0_copy) := goodIn_app (goodIn_of _ (by decide +kernel)) ggX4_foresee_X0_copy
set_option maxRecDepth 20000 in
theorem ggX4_foresee_X0_step : GoodIn wsX4_foresee wsX0_step := goodIn_r _ [30, 22, 31, 32, 33, 34, 18, 35, 21, 20, 36, 37, 38, 39, 40, 41, 42, 43, 44, 45, 46, 47, 48, 49, 50, 51, 52, 53, 54, 55, 56, 57, 58, 59, 60, 61, 94, 95, 96, 97] (by decide +kernel) (by decide +kernel)
set_option maxRecDepth 20000 in
theorem gX4_foresee_X0_step : GoodIn wsX4_foresee (wsV RX4 150 RX0 yX0_step wsX0_step) := goodIn_app (goodIn_of _ (by decide +kernel)) ggX4_foresee_X0_step
set_option maxRecDepth 20000 in
theorem ggX4_foresee_X1_alight : GoodIn wsX4_foresee wsX1_alight := goodIn_r _ [65, 13, 66, 67, 68, 11, 69, 70, 71, 72, 41, 42, 18, 43, 20, 21, 73, 45, 46, 47, 22, 48, 49, 50, 89, 90, 91, 92, 93, 94, 95, 96, 97] (by decide +kernel) (by decide +kernel)
set_option maxRecDepth 20000 in
theorem gX4_foresee_X1_alight : GoodIn wsX4_foresee (wsV RX4 225 RX1 yX1_alight wsX1_alight) := goodIn_app (goodIn_of _ (by decide +kernel)) ggX4_foresee_X1_alight
set_option maxRecDepth 20000 in
theorem ggX4_foresee_X0_many : GoodIn wsX4_foresee wsX0_many := goodIn_r _ [77, 78, 79, 80, 18, 81, 20, 21, 44, 45, 46, 47, 22, 48, 49, 50, 94, 95, 96, 97] (by decide +kernel) (by decide +kernel)
set_option maxRecDepth 20000 in
theorem gX4_foresee_X0_many : GoodIn wsX4_foresee (wsV RX4 138 RX0 yX0_many wsX0_many) := goodIn_app (goodIn_of _ (by decide +kernel)) ggX4_foresee_X0_many
set_option maxRecDepth 20000 in
theorem ggX4_advise_X0_copy : GoodIn wsX4_advise wsX0_copy := goodIn_r _ [9, 10, 11, 12, 13, 14, 15, 16, 78, 79, 80, 81] (by decide +kernel) (by decide +kernel)
set_option maxRecDepth 20000 in
theorem gX4_advise_X0_copy : GoodIn wsX4_advise (wsV RX4 210 RX0 yX0_copy wsX0_copy) := goodIn_app (goodIn_of _ (by decide +kernel)) ggX4_advise_X0_copy
set_option maxRecDepth 20000 in
theorem ggX4_advise_X4_headsOfTrial : GoodIn wsX4_advise wsX4_headsOfTrial := goodIn_r _ [21, 3, 22, 23, 24, 8, 25, 12, 26, 27, 28, 29, 30, 11, 10, 31, 32, 33, 34, 35, 36, 37, 38, 39, 40, 41, 42, 43, 44, 45, 46, 47, 48, 49, 50, 51, 52, 53, 54, 55, 56, 57, 58, 59, 60, 61, 62, 63, 64, 71, 72, 73, 74, 75, 76, 77, 78, 79, 80, 81] (by decide +kernel) (by decide +kernel)
set_option maxRecDepth 20000 in
theorem gX4_advise_X4_headsOfTrial : GoodIn wsX4_advise (wsV RX4 230 RX4 yX4_headsOfTrial wsX4_headsOfTrial) := goodIn_app (goodIn_of _ (by decide +kernel)) ggX4_advise_X4_headsOfTrial
set_option maxRecDepth 20000 in
theorem ggX4_advise_X0_size : GoodIn wsX4_advise wsX0_size := goodIn_r _ [64, 10, 11, 78, 79, 80, 81] (by decide +kernel) (by decide +kernel)
set_option maxRecDepth 20000 in
theorem gX4_advise_X0_size : GoodIn wsX4_advise (wsV RX4 66 RX0 yX0_size wsX0_size) := goodIn_app (goodIn_of _ (by decide +kernel)) ggX4_advise_X0_size
set_option maxRecDepth 20000 in
theorem ggX4_advise_X0_kind : GoodIn wsX4_advise wsX0_kind := goodIn_r _ [42, 12, 43, 44, 8, 45, 78, 79, 80, 81] (by decide +kernel) (by decide +kernel)
set_option maxRecDepth 20000 in
theorem gX4_advise_X0_kind : GoodIn wsX4_advise (wsV RX4 81 RX0 yX0_kind wsX0_kind) := goodIn_app (goodIn_of _ (by decide +kernel)) ggX4_advise_X0_kind
set_option maxRecDepth 20000 in
theorem ggX4_advise_X0_put : GoodIn wsX4_advise wsX0_put := goodIn_r _ [70, 12, 43, 44, 8, 45, 78, 79, 80, 81] (by decide +kernel) (by decide +kernel)
set_option maxRecDepth 20000 in
theorem gX4_advise_X0_put : GoodIn wsX4_advise (wsV RX4 85 RX0 yX0_put wsX0_put) := goodIn_app (goodIn_of _ (by decide +kernel)) ggX4_advise_X0_put
set_option maxRecDepth 20000 in
theorem ggX4_digest_X4_count : GoodIn wsX4_digest wsX4_count := goodIn_ca (goodIn_r _ [10, 11, 12, 13, 3, 14, 4, 15, 16, 17, 18, 19, 20, 21, 22, 23, 24, 25, 26, 27, 28, 29, 30, 31, 32, 33, 34, 35, 36, 37, 38, 39, 40, 41, 42, 43, 44, 45, 46, 47, 48, 49, 50, 51, 52, 53, 54, 55, 56, 57, 58, 59, 60, 61, 62, 63, 64, 65, 66, 67, 68, 69, 70, 71, 72, 73, 74, 75, 76, 77, 78, 79, 80, 81, 82, 83, 84, 85, 86, 87, 88, 89, 90, 91, 92, 93, 94, 95, 96, 150, 151, 152, 153, 154, 155, 156, 157, 158, 159, 160, 161, 162, 163, 164, 165, 166, 167, 168] (by decide +kernel) (by decide +kernel)) (goodIn_sub (fun _ h => List.mem_cons_of_mem _ (List.mem_append_right _ h)) (by decide +kernel))
set_option maxRecDepth 20000 in
theorem gX4_digest_X4_count : GoodIn wsX4_digest (wsV RX4 237 RX4 yX4_count wsX4_count) := goodIn_app (goodIn_of _ (by decide +kernel)) ggX4_digest_X4_count
set_option maxRecDepth 20000 in
theorem ggX4_digest_X0_rows : GoodIn wsX4_digest wsX0_rows := goodIn_r _ [24, 25, 157, 158, 159, 160] (by decide +kernel) (by decide +kernel)
set_option maxRecDepth 20000 in
theorem gX4_digest_X0_rows : GoodIn wsX4_digest (wsV RX4 191 RX0 yX0_rows wsX0_rows) := goodIn_app (goodIn_of _ (by decide +kernel)) ggX4_digest_X0_rows
set_option maxRecDepth 20000 in
theorem ggX4_digest_X0_columns : GoodIn wsX4_digest wsX0_columns := goodIn_r _ [19, 20, 157, 158, 159, 160] (by decide +kernel) (by decide +kernel)
set_option maxRecDepth 20000 in
theorem gX4_digest_X0_columns : GoodIn wsX4_digest (wsV RX4 188 RX0 yX0_columns wsX0_columns) := goodIn_app (goodIn_of _ (by decide +kernel)) ggX4_digest_X0_columns
set_option maxRecDepth 20000 in
theorem ggX4_digest_X4_told : GoodIn wsX4_digest wsX4_told := goodIn_ca (goodIn_r _ [100, 11, 12, 3, 14, 101, 69, 70, 18, 71, 20, 25, 102, 35, 36, 37, 38, 39, 40, 41, 103, 104, 105, 106, 107, 108, 109, 110, 111, 34, 112, 113, 114, 115, 116, 117, 45, 118, 47, 48, 49, 50, 51, 52, 53, 54, 55, 58, 59, 60, 61, 62, 63, 64, 65, 66, 67, 68, 72, 73, 74, 75, 76, 77, 119, 120, 121, 122, 150, 151, 152, 153, 154, 155, 156, 157, 158, 159, 160, 161, 162, 163] (by decide +kernel) (by decide +kernel)) (goodIn_sub (fun _ h => List.mem_cons_of_mem _ (List.mem_append_right _ h)) (by decide +kernel))
set_option maxRecDepth 20000 in
theorem gX4_digest_X4_told : GoodIn wsX4_digest (wsV RX4 240 RX4 yX4_told wsX4_told) := goodIn_app (goodIn_of _ (by decide +kernel)) ggX4_digest_X4_told
set_option maxRecDepth 20000 in
theorem ggX4_digest_X1_many : GoodIn wsX4_digest wsX1_many := goodIn_r _ [90, 91, 164, 165, 166, 167, 168] (by decide +kernel) (by decide +kernel)
set_option maxRecDepth 20000 in
theorem gX4_digest_X1_many : GoodIn wsX4_digest (wsV RX4 141 RX1 yX1_many wsX1_many) := goodIn_app (goodIn_of _ (by decide +kernel)) ggX4_digest_X1_many
set_option maxRecDepth 20000 in
theorem ggX4_digest_X4_about : GoodIn wsX4_digest wsX4_about := goodIn_ca (goodIn_r _ [126, 11, 12, 4, 86, 87, 88, 89, 90, 91, 127, 128, 129, 130, 131, 132, 133, 134, 135, 136, 137, 138, 139, 140, 141, 142, 143, 144, 96, 145, 146, 147, 148, 149, 150, 151, 152, 153, 154, 155, 156, 164, 165, 166, 167, 168] (by decide +kernel) (by decide +kernel)) (goodIn_sub (fun _ h => List.mem_cons_of_mem _ (List.mem_append_right _ h)) (by decide +kernel))
set_option maxRecDepth 20000 in
theorem gX4_digest_X4_about : GoodIn wsX4_digest (wsV RX4 244 RX4 yX4_about wsX4_about) := goodIn_app (goodIn_of _ (by decide +kernel)) ggX4_digest_X4_about
set_option maxRecDepth 20000 in
theorem ggX4_lay_X0_cell : GoodIn wsX4_lay wsX0_cell := goodIn_r _ [6, 7, 8, 28, 29, 30, 31] (by decide +kernel) (by decide +kernel)
set_option maxRecDepth 20000 in
theorem gX4_lay_X0_cell : GoodIn wsX4_lay (wsV RX4 70 RX0 yX0_cell wsX0_cell) := goodIn_app (goodIn_of _ (by decide +kernel)) ggX4_lay_X0_cell
set_option maxRecDepth 20000 in
theorem ggX4_lay_X0_kind : GoodIn wsX4_lay wsX0_kind := goodIn_r _ [12, 13, 14, 15, 5, 16, 28, 29, 30, 31] (by decide +kernel) (by decide +kernel)
set_option maxRecDepth 20000 in
theorem gX4_lay_X0_kind : GoodIn wsX4_lay (wsV RX4 81 RX0 yX0_kind wsX0_kind) := goodIn_app (goodIn_of _ (by decide +kernel)) ggX4_lay_X0_kind
set_option maxRecDepth 20000 in
theorem ggX4_lay_X0_put : GoodIn wsX4_lay wsX0_put := goodIn_r _ [20, 13, 14, 15, 5, 16, 28, 29, 30, 31] (by decide +kernel) (by decide +kernel)
set_option maxRecDepth 20000 in
theorem gX4_lay_X0_put : GoodIn wsX4_lay (wsV RX4 85 RX0 yX0_put wsX0_put) := goodIn_app (goodIn_of _ (by decide +kernel)) ggX4_lay_X0_put
set_option maxRecDepth 20000 in
theorem ggX4_headsOfTrial_X0_step : GoodIn wsX4_headsOfTrial wsX0_step := goodIn_r _ [6, 7, 8, 9, 10, 11, 5, 12, 13, 14, 15, 16, 17, 18, 19, 20, 21, 22, 23, 24, 25, 26, 27, 28, 29, 30, 31, 32, 33, 34, 35, 36, 37, 38, 39, 40, 56, 57, 58, 59] (by decide +kernel) (by decide +kernel)
set_option maxRecDepth 20000 in
theorem gX4_headsOfTrial_X0_step : GoodIn wsX4_headsOfTrial (wsV RX4 150 RX0 yX0_step wsX0_step) := goodIn_app (goodIn_of _ (by decide +kernel)) ggX4_headsOfTrial_X0_step
set_option maxRecDepth 20000 in
theorem ggX4_headsOfTrial_X0_many : GoodIn wsX4_headsOfTrial wsX0_many := goodIn_r _ [44, 45, 46, 47, 5, 48, 14, 13, 23, 24, 25, 26, 7, 27, 28, 29, 56, 57, 58, 59] (by decide +kernel) (by decide +kernel)
set_option maxRecDepth 20000 in
theorem gX4_headsOfTrial_X0_many : GoodIn wsX4_headsOfTrial (wsV RX4 138 RX0 yX0_many wsX0_many) := goodIn_app (goodIn_of _ (by decide +kernel)) ggX4_headsOfTrial_X0_many
