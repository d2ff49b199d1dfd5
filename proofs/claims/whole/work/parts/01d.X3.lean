theorem dX3_init_0 : decode cX3_init 0 = .ok (.aload_n 0, 1) := by decide +kernel
theorem dX3_init_1 : decode cX3_init 1 = .ok (.invokespecial 3, 3) := by decide +kernel
theorem dX3_init_4 : decode cX3_init 4 = .ok (.aload_n 0, 1) := by decide +kernel
theorem dX3_init_5 : decode cX3_init 5 = .ok (.bipush 100, 2) := by decide +kernel
theorem dX3_init_7 : decode cX3_init 7 = .ok (.newarray .int, 2) := by decide +kernel
theorem dX3_init_9 : decode cX3_init 9 = .ok (.putfield 9, 3) := by decide +kernel
theorem dX3_init_12 : decode cX3_init 12 = .ok (.aload_n 0, 1) := by decide +kernel
theorem dX3_init_13 : decode cX3_init 13 = .ok (.bipush 100, 2) := by decide +kernel
theorem dX3_init_15 : decode cX3_init 15 = .ok (.newarray .int, 2) := by decide +kernel
theorem dX3_init_17 : decode cX3_init 17 = .ok (.putfield 15, 3) := by decide +kernel
theorem dX3_init_20 : decode cX3_init 20 = .ok (.aload_n 0, 1) := by decide +kernel
theorem dX3_init_21 : decode cX3_init 21 = .ok (.bipush 100, 2) := by decide +kernel
theorem dX3_init_23 : decode cX3_init 23 = .ok (.newarray .int, 2) := by decide +kernel
theorem dX3_init_25 : decode cX3_init 25 = .ok (.putfield 18, 3) := by decide +kernel
theorem dX3_init_28 : decode cX3_init 28 = .ok (.return_, 1) := by decide +kernel
theorem dX3_sizeOfPiece_0 : decode cX3_sizeOfPiece 0 = .ok (.aload_n 0, 1) := by decide +kernel
theorem dX3_sizeOfPiece_1 : decode cX3_sizeOfPiece 1 = .ok (.invokevirtual 21, 3) := by decide +kernel
theorem dX3_sizeOfPiece_4 : decode cX3_sizeOfPiece 4 = .ok (.aload_n 0, 1) := by decide +kernel
theorem dX3_sizeOfPiece_5 : decode cX3_sizeOfPiece 5 = .ok (.aload_n 1, 1) := by decide +kernel
theorem dX3_sizeOfPiece_6 : decode cX3_sizeOfPiece 6 = .ok (.iload_n 2, 1) := by decide +kernel
theorem dX3_sizeOfPiece_7 : decode cX3_sizeOfPiece 7 = .ok (.iload_n 3, 1) := by decide +kernel
theorem dX3_sizeOfPiece_8 : decode cX3_sizeOfPiece 8 = .ok (.invokevirtual 24, 3) := by decide +kernel
theorem dX3_sizeOfPiece_11 : decode cX3_sizeOfPiece 11 = .ok (.ireturn, 1) := by decide +kernel
theorem dX3_pieces_0 : decode cX3_pieces 0 = .ok (.aload_n 0, 1) := by decide +kernel
theorem dX3_pieces_1 : decode cX3_pieces 1 = .ok (.invokevirtual 21, 3) := by decide +kernel
theorem dX3_pieces_4 : decode cX3_pieces 4 = .ok (.iconst 0, 1) := by decide +kernel
theorem dX3_pieces_5 : decode cX3_pieces 5 = .ok (.istore_n 2, 1) := by decide +kernel
theorem dX3_pieces_6 : decode cX3_pieces 6 = .ok (.iconst 0, 1) := by decide +kernel
theorem dX3_pieces_7 : decode cX3_pieces 7 = .ok (.istore_n 3, 1) := by decide +kernel
theorem dX3_pieces_8 : decode cX3_pieces 8 = .ok (.iload_n 3, 1) := by decide +kernel
theorem dX3_pieces_9 : decode cX3_pieces 9 = .ok (.aload_n 1, 1) := by decide +kernel
theorem dX3_pieces_10 : decode cX3_pieces 10 = .ok (.invokevirtual 28, 3) := by decide +kernel
theorem dX3_pieces_13 : decode cX3_pieces 13 = .ok (.if_icmp .ge 41, 3) := by decide +kernel
theorem dX3_pieces_16 : decode cX3_pieces 16 = .ok (.iconst 0, 1) := by decide +kernel
theorem dX3_pieces_17 : decode cX3_pieces 17 = .ok (.istore 4, 2) := by decide +kernel
theorem dX3_pieces_19 : decode cX3_pieces 19 = .ok (.iload 4, 2) := by decide +kernel
theorem dX3_pieces_21 : decode cX3_pieces 21 = .ok (.aload_n 1, 1) := by decide +kernel
theorem dX3_pieces_22 : decode cX3_pieces 22 = .ok (.invokevirtual 34, 3) := by decide +kernel
theorem dX3_pieces_25 : decode cX3_pieces 25 = .ok (.if_icmp .ge 23, 3) := by decide +kernel
theorem dX3_pieces_28 : decode cX3_pieces 28 = .ok (.aload_n 0, 1) := by decide +kernel
theorem dX3_pieces_29 : decode cX3_pieces 29 = .ok (.aload_n 1, 1) := by decide +kernel
theorem dX3_pieces_30 : decode cX3_pieces 30 = .ok (.iload 4, 2) := by decide +kernel
theorem dX3_pieces_32 : decode cX3_pieces 32 = .ok (.iload_n 3, 1) := by decide +kernel
theorem dX3_pieces_33 : decode cX3_pieces 33 = .ok (.invokevirtual 24, 3) := by decide +kernel
theorem dX3_pieces_36 : decode cX3_pieces 36 = .ok (.ifCond .le 6, 3) := by decide +kernel
theorem dX3_pieces_39 : decode cX3_pieces 39 = .ok (.iinc 2 1, 3) := by decide +kernel
theorem dX3_pieces_42 : decode cX3_pieces 42 = .ok (.iinc 4 1, 3) := by decide +kernel
theorem dX3_pieces_45 : decode cX3_pieces 45 = .ok (.goto (-26), 3) := by decide +kernel
theorem dX3_pieces_48 : decode cX3_pieces 48 = .ok (.iinc 3 1, 3) := by decide +kernel
theorem dX3_pieces_51 : decode cX3_pieces 51 = .ok (.goto (-43), 3) := by decide +kernel
theorem dX3_pieces_54 : decode cX3_pieces 54 = .ok (.iload_n 2, 1) := by decide +kernel
theorem dX3_pieces_55 : decode cX3_pieces 55 = .ok (.ireturn, 1) := by decide +kernel
theorem dX3_sizeOfLongest_0 : decode cX3_sizeOfLongest 0 = .ok (.aload_n 0, 1) := by decide +kernel
theorem dX3_sizeOfLongest_1 : decode cX3_sizeOfLongest 1 = .ok (.invokevirtual 21, 3) := by decide +kernel
theorem dX3_sizeOfLongest_4 : decode cX3_sizeOfLongest 4 = .ok (.iconst 0, 1) := by decide +kernel
theorem dX3_sizeOfLongest_5 : decode cX3_sizeOfLongest 5 = .ok (.istore_n 2, 1) := by decide +kernel
theorem dX3_sizeOfLongest_6 : decode cX3_sizeOfLongest 6 = .ok (.iconst 0, 1) := by decide +kernel
theorem dX3_sizeOfLongest_7 : decode cX3_sizeOfLongest 7 = .ok (.istore_n 3, 1) := by decide +kernel
theorem dX3_sizeOfLongest_8 : decode cX3_sizeOfLongest 8 = .ok (.iload_n 3, 1) := by decide +kernel
theorem dX3_sizeOfLongest_9 : decode cX3_sizeOfLongest 9 = .ok (.aload_n 1, 1) := by decide +kernel
theorem dX3_sizeOfLongest_10 : decode cX3_sizeOfLongest 10 = .ok (.invokevirtual 28, 3) := by decide +kernel
theorem dX3_sizeOfLongest_13 : decode cX3_sizeOfLongest 13 = .ok (.if_icmp .ge 40, 3) := by decide +kernel
theorem dX3_sizeOfLongest_16 : decode cX3_sizeOfLongest 16 = .ok (.iconst 0, 1) := by decide +kernel
theorem dX3_sizeOfLongest_17 : decode cX3_sizeOfLongest 17 = .ok (.istore 4, 2) := by decide +kernel
theorem dX3_sizeOfLongest_19 : decode cX3_sizeOfLongest 19 = .ok (.iload 4, 2) := by decide +kernel
theorem dX3_sizeOfLongest_21 : decode cX3_sizeOfLongest 21 = .ok (.aload_n 1, 1) := by decide +kernel
theorem dX3_sizeOfLongest_22 : decode cX3_sizeOfLongest 22 = .ok (.invokevirtual 34, 3) := by decide +kernel
theorem dX3_sizeOfLongest_25 : decode cX3_sizeOfLongest 25 = .ok (.if_icmp .ge 22, 3) := by decide +kernel
theorem dX3_sizeOfLongest_28 : decode cX3_sizeOfLongest 28 = .ok (.iload_n 2, 1) := by decide +kernel
theorem dX3_sizeOfLongest_29 : decode cX3_sizeOfLongest 29 = .ok (.aload_n 0, 1) := by decide +kernel
theorem dX3_sizeOfLongest_30 : decode cX3_sizeOfLongest 30 = .ok (.aload_n 1, 1) := by decide +kernel
theorem dX3_sizeOfLongest_31 : decode cX3_sizeOfLongest 31 = .ok (.iload 4, 2) := by decide +kernel
theorem dX3_sizeOfLongest_33 : decode cX3_sizeOfLongest 33 = .ok (.iload_n 3, 1) := by decide +kernel
theorem dX3_sizeOfLongest_34 : decode cX3_sizeOfLongest 34 = .ok (.invokevirtual 24, 3) := by decide +kernel
theorem dX3_sizeOfLongest_37 : decode cX3_sizeOfLongest 37 = .ok (.invokestatic 37, 3) := by decide +kernel
theorem dX3_sizeOfLongest_40 : decode cX3_sizeOfLongest 40 = .ok (.istore_n 2, 1) := by decide +kernel
theorem dX3_sizeOfLongest_41 : decode cX3_sizeOfLongest 41 = .ok (.iinc 4 1, 3) := by decide +kernel
theorem dX3_sizeOfLongest_44 : decode cX3_sizeOfLongest 44 = .ok (.goto (-25), 3) := by decide +kernel
theorem dX3_sizeOfLongest_47 : decode cX3_sizeOfLongest 47 = .ok (.iinc 3 1, 3) := by decide +kernel
theorem dX3_sizeOfLongest_50 : decode cX3_sizeOfLongest 50 = .ok (.goto (-42), 3) := by decide +kernel
theorem dX3_sizeOfLongest_53 : decode cX3_sizeOfLongest 53 = .ok (.iload_n 2, 1) := by decide +kernel
theorem dX3_sizeOfLongest_54 : decode cX3_sizeOfLongest 54 = .ok (.ireturn, 1) := by decide +kernel
theorem dX3_far_0 : decode cX3_far 0 = .ok (.aload_n 0, 1) := by decide +kernel
theorem dX3_far_1 : decode cX3_far 1 = .ok (.invokevirtual 21, 3) := by decide +kernel
theorem dX3_far_4 : decode cX3_far 4 = .ok (.aload_n 0, 1) := by decide +kernel
theorem dX3_far_5 : decode cX3_far 5 = .ok (.aload_n 1, 1) := by decide +kernel
theorem dX3_far_6 : decode cX3_far 6 = .ok (.iload_n 2, 1) := by decide +kernel
theorem dX3_far_7 : decode cX3_far 7 = .ok (.iload_n 3, 1) := by decide +kernel
theorem dX3_far_8 : decode cX3_far 8 = .ok (.invokevirtual 24, 3) := by decide +kernel
theorem dX3_far_11 : decode cX3_far 11 = .ok (.pop, 1) := by decide +kernel
theorem dX3_far_12 : decode cX3_far 12 = .ok (.aload_n 0, 1) := by decide +kernel
theorem dX3_far_13 : decode cX3_far 13 = .ok (.iload 4, 2) := by decide +kernel
theorem dX3_far_15 : decode cX3_far 15 = .ok (.invokevirtual 43, 3) := by decide +kernel
theorem dX3_far_18 : decode cX3_far 18 = .ok (.ireturn, 1) := by decide +kernel
theorem dX3_wayTo_0 : decode cX3_wayTo 0 = .ok (.iload_n 1, 1) := by decide +kernel
theorem dX3_wayTo_1 : decode cX3_wayTo 1 = .ok (.invokestatic 47, 3) := by decide +kernel
theorem dX3_wayTo_4 : decode cX3_wayTo 4 = .ok (.ifCond .eq 12, 3) := by decide +kernel
theorem dX3_wayTo_7 : decode cX3_wayTo 7 = .ok (.aload_n 0, 1) := by decide +kernel
theorem dX3_wayTo_8 : decode cX3_wayTo 8 = .ok (.getfield 9, 3) := by decide +kernel
theorem dX3_wayTo_11 : decode cX3_wayTo 11 = .ok (.iload_n 1, 1) := by decide +kernel
theorem dX3_wayTo_12 : decode cX3_wayTo 12 = .ok (.iaload, 1) := by decide +kernel
theorem dX3_wayTo_13 : decode cX3_wayTo 13 = .ok (.goto 4, 3) := by decide +kernel
theorem dX3_wayTo_16 : decode cX3_wayTo 16 = .ok (.iconst (-1), 1) := by decide +kernel
theorem dX3_wayTo_17 : decode cX3_wayTo 17 = .ok (.ireturn, 1) := by decide +kernel
theorem dX3_forget_0 : decode cX3_forget 0 = .ok (.aload_n 0, 1) := by decide +kernel
theorem dX3_forget_1 : decode cX3_forget 1 = .ok (.getfield 9, 3) := by decide +kernel
theorem dX3_forget_4 : decode cX3_forget 4 = .ok (.iconst (-1), 1) := by decide +kernel
theorem dX3_forget_5 : decode cX3_forget 5 = .ok (.invokestatic 51, 3) := by decide +kernel
theorem dX3_forget_8 : decode cX3_forget 8 = .ok (.return_, 1) := by decide +kernel
theorem dX3_reach_0 : decode cX3_reach 0 = .ok (.aload_n 0, 1) := by decide +kernel
theorem dX3_reach_1 : decode cX3_reach 1 = .ok (.aload_n 1, 1) := by decide +kernel
theorem dX3_reach_2 : decode cX3_reach 2 = .ok (.iload_n 2, 1) := by decide +kernel
theorem dX3_reach_3 : decode cX3_reach 3 = .ok (.iload_n 3, 1) := by decide +kernel
theorem dX3_reach_4 : decode cX3_reach 4 = .ok (.iconst 0, 1) := by decide +kernel
theorem dX3_reach_5 : decode cX3_reach 5 = .ok (.iconst 0, 1) := by decide +kernel
theorem dX3_reach_6 : decode cX3_reach 6 = .ok (.invokevirtual 57, 3) := by decide +kernel
theorem dX3_reach_9 : decode cX3_reach 9 = .ok (.istore 4, 2) := by decide +kernel
theorem dX3_reach_11 : decode cX3_reach 11 = .ok (.iconst 0, 1) := by decide +kernel
theorem dX3_reach_12 : decode cX3_reach 12 = .ok (.istore 5, 2) := by decide +kernel
theorem dX3_reach_14 : decode cX3_reach 14 = .ok (.iload 5, 2) := by decide +kernel
theorem dX3_reach_16 : decode cX3_reach 16 = .ok (.iload 4, 2) := by decide +kernel
theorem dX3_reach_18 : decode cX3_reach 18 = .ok (.if_icmp .ge 97, 3) := by decide +kernel
theorem dX3_reach_21 : decode cX3_reach 21 = .ok (.iload 5, 2) := by decide +kernel
theorem dX3_reach_23 : decode cX3_reach 23 = .ok (.bipush 100, 2) := by decide +kernel
theorem dX3_reach_25 : decode cX3_reach 25 = .ok (.if_icmp .ge 90, 3) := by decide +kernel
theorem dX3_reach_28 : decode cX3_reach 28 = .ok (.aload_n 0, 1) := by decide +kernel
theorem dX3_reach_29 : decode cX3_reach 29 = .ok (.aload_n 1, 1) := by decide +kernel
theorem dX3_reach_30 : decode cX3_reach 30 = .ok (.aload_n 0, 1) := by decide +kernel
theorem dX3_reach_31 : decode cX3_reach 31 = .ok (.getfield 15, 3) := by decide +kernel
theorem dX3_reach_34 : decode cX3_reach 34 = .ok (.iload 5, 2) := by decide +kernel
theorem dX3_reach_36 : decode cX3_reach 36 = .ok (.iaload, 1) := by decide +kernel
theorem dX3_reach_37 : decode cX3_reach 37 = .ok (.aload_n 0, 1) := by decide +kernel
theorem dX3_reach_38 : decode cX3_reach 38 = .ok (.getfield 18, 3) := by decide +kernel
theorem dX3_reach_41 : decode cX3_reach 41 = .ok (.iload 5, 2) := by decide +kernel
theorem dX3_reach_43 : decode cX3_reach 43 = .ok (.iaload, 1) := by decide +kernel
theorem dX3_reach_44 : decode cX3_reach 44 = .ok (.invokevirtual 61, 3) := by decide +kernel
theorem dX3_reach_47 : decode cX3_reach 47 = .ok (.invokevirtual 43, 3) := by decide +kernel
theorem dX3_reach_50 : decode cX3_reach 50 = .ok (.iconst 1, 1) := by decide +kernel
theorem dX3_reach_51 : decode cX3_reach 51 = .ok (.iadd, 1) := by decide +kernel
theorem dX3_reach_52 : decode cX3_reach 52 = .ok (.istore 6, 2) := by decide +kernel
theorem dX3_reach_54 : decode cX3_reach 54 = .ok (.iconst 0, 1) := by decide +kernel
theorem dX3_reach_55 : decode cX3_reach 55 = .ok (.istore 7, 2) := by decide +kernel
theorem dX3_reach_57 : decode cX3_reach 57 = .ok (.iload 7, 2) := by decide +kernel
theorem dX3_reach_59 : decode cX3_reach 59 = .ok (.bipush 8, 2) := by decide +kernel
theorem dX3_reach_61 : decode cX3_reach 61 = .ok (.if_icmp .ge 48, 3) := by decide +kernel
theorem dX3_reach_64 : decode cX3_reach 64 = .ok (.aload_n 0, 1) := by decide +kernel
theorem dX3_reach_65 : decode cX3_reach 65 = .ok (.aload_n 1, 1) := by decide +kernel
theorem dX3_reach_66 : decode cX3_reach 66 = .ok (.aload_n 0, 1) := by decide +kernel
theorem dX3_reach_67 : decode cX3_reach 67 = .ok (.getfield 15, 3) := by decide +kernel
theorem dX3_reach_70 : decode cX3_reach 70 = .ok (.iload 5, 2) := by decide +kernel
theorem dX3_reach_72 : decode cX3_reach 72 = .ok (.iaload, 1) := by decide +kernel
theorem dX3_reach_73 : decode cX3_reach 73 = .ok (.getstatic 64, 3) := by decide +kernel
theorem dX3_reach_76 : decode cX3_reach 76 = .ok (.iload 7, 2) := by decide +kernel
theorem dX3_reach_78 : decode cX3_reach 78 = .ok (.iaload, 1) := by decide +kernel
theorem dX3_reach_79 : decode cX3_reach 79 = .ok (.iadd, 1) := by decide +kernel
theorem dX3_reach_80 : decode cX3_reach 80 = .ok (.aload_n 0, 1) := by decide +kernel
theorem dX3_reach_81 : decode cX3_reach 81 = .ok (.getfield 18, 3) := by decide +kernel
theorem dX3_reach_84 : decode cX3_reach 84 = .ok (.iload 5, 2) := by decide +kernel
theorem dX3_reach_86 : decode cX3_reach 86 = .ok (.iaload, 1) := by decide +kernel
theorem dX3_reach_87 : decode cX3_reach 87 = .ok (.getstatic 67, 3) := by decide +kernel
theorem dX3_reach_90 : decode cX3_reach 90 = .ok (.iload 7, 2) := by decide +kernel
theorem dX3_reach_92 : decode cX3_reach 92 = .ok (.iaload, 1) := by decide +kernel
theorem dX3_reach_93 : decode cX3_reach 93 = .ok (.iadd, 1) := by decide +kernel
theorem dX3_reach_94 : decode cX3_reach 94 = .ok (.iload 6, 2) := by decide +kernel
theorem dX3_reach_96 : decode cX3_reach 96 = .ok (.iload 4, 2) := by decide +kernel
theorem dX3_reach_98 : decode cX3_reach 98 = .ok (.invokevirtual 57, 3) := by decide +kernel
theorem dX3_reach_101 : decode cX3_reach 101 = .ok (.istore 4, 2) := by decide +kernel
theorem dX3_reach_103 : decode cX3_reach 103 = .ok (.iinc 7 1, 3) := by decide +kernel
theorem dX3_reach_106 : decode cX3_reach 106 = .ok (.goto (-49), 3) := by decide +kernel
theorem dX3_reach_109 : decode cX3_reach 109 = .ok (.iinc 5 1, 3) := by decide +kernel
theorem dX3_reach_112 : decode cX3_reach 112 = .ok (.goto (-98), 3) := by decide +kernel
theorem dX3_reach_115 : decode cX3_reach 115 = .ok (.iload 4, 2) := by decide +kernel
theorem dX3_reach_117 : decode cX3_reach 117 = .ok (.ireturn, 1) := by decide +kernel
theorem dX3_visit_0 : decode cX3_visit 0 = .ok (.aload_n 1, 1) := by decide +kernel
theorem dX3_visit_1 : decode cX3_visit 1 = .ok (.iload_n 2, 1) := by decide +kernel
theorem dX3_visit_2 : decode cX3_visit 2 = .ok (.iload_n 3, 1) := by decide +kernel
theorem dX3_visit_3 : decode cX3_visit 3 = .ok (.invokevirtual 61, 3) := by decide +kernel
theorem dX3_visit_6 : decode cX3_visit 6 = .ok (.istore 6, 2) := by decide +kernel
theorem dX3_visit_8 : decode cX3_visit 8 = .ok (.iload 6, 2) := by decide +kernel
theorem dX3_visit_10 : decode cX3_visit 10 = .ok (.invokestatic 47, 3) := by decide +kernel
theorem dX3_visit_13 : decode cX3_visit 13 = .ok (.ifCond .eq 10, 3) := by decide +kernel
theorem dX3_visit_16 : decode cX3_visit 16 = .ok (.iload 5, 2) := by decide +kernel
theorem dX3_visit_18 : decode cX3_visit 18 = .ok (.bipush 100, 2) := by decide +kernel
theorem dX3_visit_20 : decode cX3_visit 20 = .ok (.if_icmp .lt 6, 3) := by decide +kernel
theorem dX3_visit_23 : decode cX3_visit 23 = .ok (.iload 5, 2) := by decide +kernel
theorem dX3_visit_25 : decode cX3_visit 25 = .ok (.ireturn, 1) := by decide +kernel
theorem dX3_visit_26 : decode cX3_visit 26 = .ok (.aload_n 1, 1) := by decide +kernel
theorem dX3_visit_27 : decode cX3_visit 27 = .ok (.iload 6, 2) := by decide +kernel
theorem dX3_visit_29 : decode cX3_visit 29 = .ok (.invokevirtual 70, 3) := by decide +kernel
theorem dX3_visit_32 : decode cX3_visit 32 = .ok (.ifCond .eq 14, 3) := by decide +kernel
theorem dX3_visit_35 : decode cX3_visit 35 = .ok (.aload_n 0, 1) := by decide +kernel
theorem dX3_visit_36 : decode cX3_visit 36 = .ok (.getfield 9, 3) := by decide +kernel
theorem dX3_visit_39 : decode cX3_visit 39 = .ok (.iload 6, 2) := by decide +kernel
theorem dX3_visit_41 : decode cX3_visit 41 = .ok (.iaload, 1) := by decide +kernel
theorem dX3_visit_42 : decode cX3_visit 42 = .ok (.iconst (-1), 1) := by decide +kernel
theorem dX3_visit_43 : decode cX3_visit 43 = .ok (.if_icmp .eq 6, 3) := by decide +kernel
theorem dX3_visit_46 : decode cX3_visit 46 = .ok (.iload 5, 2) := by decide +kernel
theorem dX3_visit_48 : decode cX3_visit 48 = .ok (.ireturn, 1) := by decide +kernel
theorem dX3_visit_49 : decode cX3_visit 49 = .ok (.aload_n 0, 1) := by decide +kernel
theorem dX3_visit_50 : decode cX3_visit 50 = .ok (.getfield 9, 3) := by decide +kernel
theorem dX3_visit_53 : decode cX3_visit 53 = .ok (.iload 6, 2) := by decide +kernel
theorem dX3_visit_55 : decode cX3_visit 55 = .ok (.iload 4, 2) := by decide +kernel
theorem dX3_visit_57 : decode cX3_visit 57 = .ok (.iastore, 1) := by decide +kernel
theorem dX3_visit_58 : decode cX3_visit 58 = .ok (.aload_n 0, 1) := by decide +kernel
theorem dX3_visit_59 : decode cX3_visit 59 = .ok (.getfield 15, 3) := by decide +kernel
theorem dX3_visit_62 : decode cX3_visit 62 = .ok (.iload 5, 2) := by decide +kernel
theorem dX3_visit_64 : decode cX3_visit 64 = .ok (.iload_n 2, 1) := by decide +kernel
theorem dX3_visit_65 : decode cX3_visit 65 = .ok (.iastore, 1) := by decide +kernel
theorem dX3_visit_66 : decode cX3_visit 66 = .ok (.aload_n 0, 1) := by decide +kernel
theorem dX3_visit_67 : decode cX3_visit 67 = .ok (.getfield 18, 3) := by decide +kernel
theorem dX3_visit_70 : decode cX3_visit 70 = .ok (.iload 5, 2) := by decide +kernel
theorem dX3_visit_72 : decode cX3_visit 72 = .ok (.iload_n 3, 1) := by decide +kernel
theorem dX3_visit_73 : decode cX3_visit 73 = .ok (.iastore, 1) := by decide +kernel
theorem dX3_visit_74 : decode cX3_visit 74 = .ok (.iload 5, 2) := by decide +kernel
theorem dX3_visit_76 : decode cX3_visit 76 = .ok (.iconst 1, 1) := by decide +kernel
theorem dX3_visit_77 : decode cX3_visit 77 = .ok (.iadd, 1) := by decide +kernel
theorem dX3_visit_78 : decode cX3_visit 78 = .ok (.ireturn, 1) := by decide +kernel
set_option maxRecDepth 20000 in
theorem ggX3_sizeOfPiece_X3_forget : GoodIn wsX3_sizeOfPiece wsX3_forget := goodIn_r _ [5, 6, 7, 8, 9, 10, 41, 42, 43] (by decide +kernel) (by decide +kernel)
set_option maxRecDepth 20000 in
theorem gX3_sizeOfPiece_X3_forget : GoodIn wsX3_sizeOfPiece (wsV RX3 21 RX3 yX3_forget wsX3_forget) := goodIn_app (goodIn_of _ (by decide +kernel)) ggX3_sizeOfPiece_X3_forget
set_option maxRecDepth 20000 in
theorem ggX3_sizeOfPiece_X3_reach : GoodIn wsX3_sizeOfPiece wsX3_reach := goodIn_r _ [14, 15, 16, 17, 18, 19, 4, 20, 6, 21, 22, 23, 24, 25, 26, 27, 28, 29, 30, 31, 32, 33, 34, 35, 36, 37, 38, 39, 40, 41, 42, 43, 44, 45, 46, 47] (by decide +kernel) (by decide +kernel)
set_option maxRecDepth 20000 in
theorem gX3_sizeOfPiece_X3_reach : GoodIn wsX3_sizeOfPiece (wsV RX3 24 RX3 yX3_reach wsX3_reach) := goodIn_app (goodIn_of _ (by decide +kernel)) ggX3_sizeOfPiece_X3_reach
set_option maxRecDepth 20000 in
theorem ggX3_pieces_X3_forget : GoodIn wsX3_pieces wsX3_forget := goodIn_r _ [5, 6, 7, 8, 9, 10, 49, 50, 51] (by decide +kernel) (by decide +kernel)
set_option maxRecDepth 20000 in
theorem gX3_pieces_X3_forget : GoodIn wsX3_pieces (wsV RX3 21 RX3 yX3_forget wsX3_forget) := goodIn_app (goodIn_of _ (by decide +kernel)) ggX3_pieces_X3_forget
set_option maxRecDepth 20000 in
theorem ggX3_pieces_X0_rows : GoodIn wsX3_pieces wsX0_rows := goodIn_r _ [15, 16, 52, 53, 54, 55] (by decide +kernel) (by decide +kernel)
set_option maxRecDepth 20000 in
theorem gX3_pieces_X0_rows : GoodIn wsX3_pieces (wsV RX3 28 RX0 yX0_rows wsX0_rows) := goodIn_app (goodIn_of _ (by decide +kernel)) ggX3_pieces_X0_rows
set_option maxRecDepth 20000 in
theorem ggX3_pieces_X0_columns : GoodIn wsX3_pieces wsX0_columns := goodIn_r _ [20, 21, 52, 53, 54, 55] (by decide +kernel) (by decide +kernel)
set_option maxRecDepth 20000 in
theorem gX3_pieces_X0_columns : GoodIn wsX3_pieces (wsV RX3 34 RX0 yX0_columns wsX0_columns) := goodIn_app (goodIn_of _ (by decide +kernel)) ggX3_pieces_X0_columns
set_option maxRecDepth 20000 in
theorem ggX3_pieces_X3_reach : GoodIn wsX3_pieces wsX3_reach := goodIn_r _ [25, 26, 27, 28, 29, 30, 4, 31, 6, 32, 33, 34, 14, 35, 21, 16, 36, 37, 38, 39, 40, 41, 42, 43, 44, 45, 46, 47, 48, 49, 50, 51, 52, 53, 54, 55] (by decide +kernel) (by decide +kernel)
set_option maxRecDepth 20000 in
theorem gX3_pieces_X3_reach : GoodIn wsX3_pieces (wsV RX3 24 RX3 yX3_reach wsX3_reach) := goodIn_app (goodIn_of _ (by decide +kernel)) ggX3_pieces_X3_reach
set_option maxRecDepth 20000 in
theorem ggX3_sizeOfLongest_X3_forget : GoodIn wsX3_sizeOfLongest wsX3_forget := goodIn_r _ [9, 10, 11, 12, 13, 14, 53, 54, 55] (by decide +kernel) (by decide +kernel)
set_option maxRecDepth 20000 in
theorem gX3_sizeOfLongest_X3_forget : GoodIn wsX3_sizeOfLongest (wsV RX3 21 RX3 yX3_forget wsX3_forget) := goodIn_app (goodIn_of _ (by decide +kernel)) ggX3_sizeOfLongest_X3_forget
set_option maxRecDepth 20000 in
theorem ggX3_sizeOfLongest_X0_rows : GoodIn wsX3_sizeOfLongest wsX0_rows := goodIn_r _ [19, 20, 56, 57, 58, 59] (by decide +kernel) (by decide +kernel)
set_option maxRecDepth 20000 in
theorem gX3_sizeOfLongest_X0_rows : GoodIn wsX3_sizeOfLongest (wsV RX3 28 RX0 yX0_rows wsX0_rows) := goodIn_app (goodIn_of _ (by decide +kernel)) ggX3_sizeOfLongest_X0_rows
set_option maxRecDepth 20000 in
theorem ggX3_sizeOfLongest_X0_columns : GoodIn wsX3_sizeOfLongest wsX0_columns := goodIn_r _ [24, 25, 56, 57, 58, 59] (by decide +kernel) (by decide +kernel)
set_option maxRecDepth 20000 in
theorem gX3_sizeOfLongest_X0_columns : GoodIn wsX3_sizeOfLongest (wsV RX3 34 RX0 yX0_columns wsX0_columns) := goodIn_app (goodIn_of _ (by decide +kernel)) ggX3_sizeOfLongest_X0_columns
set_option maxRecDepth 20000 in
theorem ggX3_sizeOfLongest_X3_reach : GoodIn wsX3_sizeOfLongest wsX3_reach := goodIn_r _ [29, 30, 31, 32, 33, 34, 8, 35, 10, 36, 37, 38, 18, 39, 25, 20, 40, 41, 42, 43, 44, 45, 46, 47, 48, 49, 50, 51, 52, 53, 54, 55, 56, 57, 58, 59] (by decide +kernel) (by decide +kernel)
set_option maxRecDepth 20000 in
theorem gX3_sizeOfLongest_X3_reach : GoodIn wsX3_sizeOfLongest (wsV RX3 24 RX3 yX3_reach wsX3_reach) := goodIn_app (goodIn_of _ (by decide +kernel)) ggX3_sizeOfLongest_X3_reach
set_option maxRecDepth 20000 in
theorem ggX3_far_X3_forget : GoodIn wsX3_far wsX3_forget := goodIn_r _ [5, 6, 7, 8, 9, 10, 41, 42, 43] (by decide +kernel) (by decide +kernel)
set_option maxRecDepth 20000 in
theorem gX3_far_X3_forget : GoodIn wsX3_far (wsV RX3 21 RX3 yX3_forget wsX3_forget) := goodIn_app (goodIn_of _ (by decide +kernel)) ggX3_far_X3_forget
set_option maxRecDepth 20000 in
theorem ggX3_far_X3_reach : GoodIn wsX3_far wsX3_reach := goodIn_r _ [14, 15, 16, 17, 18, 19, 4, 20, 6, 21, 22, 23, 24, 25, 26, 27, 28, 29, 30, 31, 32, 33, 34, 35, 36, 37, 38, 39, 40, 41, 42, 43, 44, 45, 46, 47] (by decide +kernel) (by decide +kernel)
set_option maxRecDepth 20000 in
theorem gX3_far_X3_reach : GoodIn wsX3_far (wsV RX3 24 RX3 yX3_reach wsX3_reach) := goodIn_app (goodIn_of _ (by decide +kernel)) ggX3_far_X3_reach
set_option maxRecDepth 20000 in
theorem ggX3_far_X3_wayTo : GoodIn wsX3_far wsX3_wayTo := goodIn_r _ [40, 6, 28, 29, 24, 30, 41, 42, 43] (by decide +kernel) (by decide +kernel)
set_option maxRecDepth 20000 in
theorem gX3_far_X3_wayTo : GoodIn wsX3_far (wsV RX3 43 RX3 yX3_wayTo wsX3_wayTo) := goodIn_app (goodIn_of _ (by decide +kernel)) ggX3_far_X3_wayTo
set_option maxRecDepth 20000 in
theorem ggX3_wayTo_X0_hasPlace : GoodIn wsX3_wayTo wsX0_hasPlace := goodIn_r _ [5] (by decide +kernel) (by decide +kernel)
set_option maxRecDepth 20000 in
theorem gX3_wayTo_X0_hasPlace : GoodIn wsX3_wayTo (va_wsS RX3 47 yX0_hasPlace wsX0_hasPlace) := goodIn_app (goodIn_of _ (by decide +kernel)) ggX3_wayTo_X0_hasPlace
set_option maxRecDepth 20000 in
theorem ggX3_forget_J7_fill_53178 : GoodIn wsX3_forget wsJ7_fill_53178 := goodIn_r _ [5] (by decide +kernel) (by decide +kernel)
set_option maxRecDepth 20000 in
theorem gX3_forget_J7_fill_53178 : GoodIn wsX3_forget (va_wsS RX3 51 yJ7_fill_53178 wsJ7_fill_53178) := goodIn_app (goodIn_of _ (by decide +kernel)) ggX3_forget_J7_fill_53178
set_option maxRecDepth 20000 in
theorem ggX3_reach_X3_visit : GoodIn wsX3_reach wsX3_visit := goodIn_r _ [7, 8, 1, 2, 9, 10, 11, 12, 13, 14, 15, 16, 17, 18, 19, 20, 21, 22, 23, 24, 29, 30, 31, 32, 33, 34, 35] (by decide +kernel) (by decide +kernel)
set_option maxRecDepth 20000 in
theorem gX3_reach_X3_visit : GoodIn wsX3_reach (wsV RX3 57 RX3 yX3_visit wsX3_visit) := goodIn_app (goodIn_of _ (by decide +kernel)) ggX3_reach_X3_visit
set_option maxRecDepth 20000 in
theorem ggX3_reach_X0_cell : GoodIn wsX3_reach wsX0_cell := goodIn_r _ [13, 14, 15, 32, 33, 34, 35] (by decide +kernel) (by decide +kernel)
set_option maxRecDepth 20000 in
theorem gX3_reach_X0_cell : GoodIn wsX3_reach (wsV RX3 61 RX0 yX0_cell wsX0_cell) := goodIn_app (goodIn_of _ (by decide +kernel)) ggX3_reach_X0_cell
set_option maxRecDepth 20000 in
theorem ggX3_reach_X3_wayTo : GoodIn wsX3_reach wsX3_wayTo := goodIn_r _ [28, 8, 16, 17, 12, 18, 29, 30, 31] (by decide +kernel) (by decide +kernel)
set_option maxRecDepth 20000 in
theorem gX3_reach_X3_wayTo : GoodIn wsX3_reach (wsV RX3 43 RX3 yX3_wayTo wsX3_wayTo) := goodIn_app (goodIn_of _ (by decide +kernel)) ggX3_reach_X3_wayTo
set_option maxRecDepth 20000 in
theorem ggX3_visit_X0_cell : GoodIn wsX3_visit wsX0_cell := goodIn_r _ [8, 9, 10, 23, 24, 25, 26] (by decide +kernel) (by decide +kernel)
set_option maxRecDepth 20000 in
theorem gX3_visit_X0_cell : GoodIn wsX3_visit (wsV RX3 61 RX0 yX0_cell wsX0_cell) := goodIn_app (goodIn_of _ (by decide +kernel)) ggX3_visit_X0_cell
set_option maxRecDepth 20000 in
theorem ggX3_visit_X0_hasPlace : GoodIn wsX3_visit wsX0_hasPlace := goodIn_r _ [13] (by decide +kernel) (by decide +kernel)
set_option maxRecDepth 20000 in
theorem gX3_visit_X0_hasPlace : GoodIn wsX3_visit (va_wsS RX3 47 yX0_hasPlace wsX0_hasPlace) := goodIn_app (goodIn_of _ (by decide +kernel)) ggX3_visit_X0_hasPlace
set_option maxRecDepth 20000 in
theorem ggX3_visit_X0_kind : GoodIn wsX3_visit wsX0_kind := goodIn_r _ [17, 18, 19, 12, 7, 13, 23, 24, 25, 26] (by decide +kernel) (by decide +kernel)
set_option maxRecDepth 20000 in
theorem gX3_visit_X0_kind : GoodIn wsX3_visit (wsV RX3 70 RX0 yX0_kind wsX0_kind) := goodIn_app (goodIn_of _ (by decide +kernel)) ggX3_visit_X0_kind
