/-! what each instruction is -/
theorem dX1_init_0 : decode cX1_init 0 = .ok (.aload_n 0, 1) := by decide +kernel
theorem dX1_init_1 : decode cX1_init 1 = .ok (.invokespecial 1, 3) := by decide +kernel
theorem dX1_init_4 : decode cX1_init 4 = .ok (.aload_n 0, 1) := by decide +kernel
theorem dX1_init_5 : decode cX1_init 5 = .ok (.sipush 1480, 3) := by decide +kernel
theorem dX1_init_8 : decode cX1_init 8 = .ok (.newarray .int, 2) := by decide +kernel
theorem dX1_init_10 : decode cX1_init 10 = .ok (.putfield 9, 3) := by decide +kernel
theorem dX1_init_13 : decode cX1_init 13 = .ok (.aload_n 0, 1) := by decide +kernel
theorem dX1_init_14 : decode cX1_init 14 = .ok (.iconst 4, 1) := by decide +kernel
theorem dX1_init_15 : decode cX1_init 15 = .ok (.anewarray 13, 3) := by decide +kernel
theorem dX1_init_18 : decode cX1_init 18 = .ok (.putfield 15, 3) := by decide +kernel
theorem dX1_init_21 : decode cX1_init 21 = .ok (.iconst 0, 1) := by decide +kernel
theorem dX1_init_22 : decode cX1_init 22 = .ok (.istore_n 1, 1) := by decide +kernel
theorem dX1_init_23 : decode cX1_init 23 = .ok (.iload_n 1, 1) := by decide +kernel
theorem dX1_init_24 : decode cX1_init 24 = .ok (.iconst 4, 1) := by decide +kernel
theorem dX1_init_25 : decode cX1_init 25 = .ok (.if_icmp .ge 22, 3) := by decide +kernel
theorem dX1_init_28 : decode cX1_init 28 = .ok (.aload_n 0, 1) := by decide +kernel
theorem dX1_init_29 : decode cX1_init 29 = .ok (.getfield 15, 3) := by decide +kernel
theorem dX1_init_32 : decode cX1_init 32 = .ok (.iload_n 1, 1) := by decide +kernel
theorem dX1_init_33 : decode cX1_init 33 = .ok (.new 13, 3) := by decide +kernel
theorem dX1_init_36 : decode cX1_init 36 = .ok (.dup, 1) := by decide +kernel
theorem dX1_init_37 : decode cX1_init 37 = .ok (.invokespecial 19, 3) := by decide +kernel
theorem dX1_init_40 : decode cX1_init 40 = .ok (.aastore, 1) := by decide +kernel
theorem dX1_init_41 : decode cX1_init 41 = .ok (.iinc 1 1, 3) := by decide +kernel
theorem dX1_init_44 : decode cX1_init 44 = .ok (.goto (-21), 3) := by decide +kernel
theorem dX1_init_47 : decode cX1_init 47 = .ok (.aload_n 0, 1) := by decide +kernel
theorem dX1_init_48 : decode cX1_init 48 = .ok (.new 13, 3) := by decide +kernel
theorem dX1_init_51 : decode cX1_init 51 = .ok (.dup, 1) := by decide +kernel
theorem dX1_init_52 : decode cX1_init 52 = .ok (.invokespecial 19, 3) := by decide +kernel
theorem dX1_init_55 : decode cX1_init 55 = .ok (.putfield 20, 3) := by decide +kernel
theorem dX1_init_58 : decode cX1_init 58 = .ok (.return_, 1) := by decide +kernel
theorem dX1_feed_0 : decode cX1_feed 0 = .ok (.iload_n 3, 1) := by decide +kernel
theorem dX1_feed_1 : decode cX1_feed 1 = .ok (.iconst 1, 1) := by decide +kernel
theorem dX1_feed_2 : decode cX1_feed 2 = .ok (.if_icmp .lt 9, 3) := by decide +kernel
theorem dX1_feed_5 : decode cX1_feed 5 = .ok (.iload_n 3, 1) := by decide +kernel
theorem dX1_feed_6 : decode cX1_feed 6 = .ok (.bipush 8, 2) := by decide +kernel
theorem dX1_feed_8 : decode cX1_feed 8 = .ok (.if_icmp .le 13, 3) := by decide +kernel
theorem dX1_feed_11 : decode cX1_feed 11 = .ok (.new 24, 3) := by decide +kernel
theorem dX1_feed_14 : decode cX1_feed 14 = .ok (.dup, 1) := by decide +kernel
theorem dX1_feed_15 : decode cX1_feed 15 = .ok (.ldc 26, 2) := by decide +kernel
theorem dX1_feed_17 : decode cX1_feed 17 = .ok (.invokespecial 28, 3) := by decide +kernel
theorem dX1_feed_20 : decode cX1_feed 20 = .ok (.athrow, 1) := by decide +kernel
theorem dX1_feed_21 : decode cX1_feed 21 = .ok (.iload_n 3, 1) := by decide +kernel
theorem dX1_feed_22 : decode cX1_feed 22 = .ok (.sipush 1480, 3) := by decide +kernel
theorem dX1_feed_25 : decode cX1_feed 25 = .ok (.aload_n 0, 1) := by decide +kernel
theorem dX1_feed_26 : decode cX1_feed 26 = .ok (.getfield 31, 3) := by decide +kernel
theorem dX1_feed_29 : decode cX1_feed 29 = .ok (.isub, 1) := by decide +kernel
theorem dX1_feed_30 : decode cX1_feed 30 = .ok (.if_icmp .le 13, 3) := by decide +kernel
theorem dX1_feed_33 : decode cX1_feed 33 = .ok (.new 35, 3) := by decide +kernel
theorem dX1_feed_36 : decode cX1_feed 36 = .ok (.dup, 1) := by decide +kernel
theorem dX1_feed_37 : decode cX1_feed 37 = .ok (.ldc 37, 2) := by decide +kernel
theorem dX1_feed_39 : decode cX1_feed 39 = .ok (.invokespecial 39, 3) := by decide +kernel
theorem dX1_feed_42 : decode cX1_feed 42 = .ok (.athrow, 1) := by decide +kernel
theorem dX1_feed_43 : decode cX1_feed 43 = .ok (.iconst 0, 1) := by decide +kernel
theorem dX1_feed_44 : decode cX1_feed 44 = .ok (.istore 4, 2) := by decide +kernel
theorem dX1_feed_46 : decode cX1_feed 46 = .ok (.iload 4, 2) := by decide +kernel
theorem dX1_feed_48 : decode cX1_feed 48 = .ok (.iload_n 3, 1) := by decide +kernel
theorem dX1_feed_49 : decode cX1_feed 49 = .ok (.if_icmp .ge 41, 3) := by decide +kernel
theorem dX1_feed_52 : decode cX1_feed 52 = .ok (.bipush 8, 2) := by decide +kernel
theorem dX1_feed_54 : decode cX1_feed 54 = .ok (.iload_n 3, 1) := by decide +kernel
theorem dX1_feed_55 : decode cX1_feed 55 = .ok (.iconst 1, 1) := by decide +kernel
theorem dX1_feed_56 : decode cX1_feed 56 = .ok (.isub, 1) := by decide +kernel
theorem dX1_feed_57 : decode cX1_feed 57 = .ok (.iload 4, 2) := by decide +kernel
theorem dX1_feed_59 : decode cX1_feed 59 = .ok (.isub, 1) := by decide +kernel
theorem dX1_feed_60 : decode cX1_feed 60 = .ok (.imul, 1) := by decide +kernel
theorem dX1_feed_61 : decode cX1_feed 61 = .ok (.istore 5, 2) := by decide +kernel
theorem dX1_feed_63 : decode cX1_feed 63 = .ok (.aload_n 0, 1) := by decide +kernel
theorem dX1_feed_64 : decode cX1_feed 64 = .ok (.getfield 9, 3) := by decide +kernel
theorem dX1_feed_67 : decode cX1_feed 67 = .ok (.aload_n 0, 1) := by decide +kernel
theorem dX1_feed_68 : decode cX1_feed 68 = .ok (.getfield 31, 3) := by decide +kernel
theorem dX1_feed_71 : decode cX1_feed 71 = .ok (.iload 4, 2) := by decide +kernel
theorem dX1_feed_73 : decode cX1_feed 73 = .ok (.iadd, 1) := by decide +kernel
theorem dX1_feed_74 : decode cX1_feed 74 = .ok (.lload_n 1, 1) := by decide +kernel
theorem dX1_feed_75 : decode cX1_feed 75 = .ok (.iload 5, 2) := by decide +kernel
theorem dX1_feed_77 : decode cX1_feed 77 = .ok (.lushr, 1) := by decide +kernel
theorem dX1_feed_78 : decode cX1_feed 78 = .ok (.l2i, 1) := by decide +kernel
theorem dX1_feed_79 : decode cX1_feed 79 = .ok (.sipush 255, 3) := by decide +kernel
theorem dX1_feed_82 : decode cX1_feed 82 = .ok (.iand, 1) := by decide +kernel
theorem dX1_feed_83 : decode cX1_feed 83 = .ok (.iastore, 1) := by decide +kernel
theorem dX1_feed_84 : decode cX1_feed 84 = .ok (.iinc 4 1, 3) := by decide +kernel
theorem dX1_feed_87 : decode cX1_feed 87 = .ok (.goto (-41), 3) := by decide +kernel
theorem dX1_feed_90 : decode cX1_feed 90 = .ok (.aload_n 0, 1) := by decide +kernel
theorem dX1_feed_91 : decode cX1_feed 91 = .ok (.dup, 1) := by decide +kernel
theorem dX1_feed_92 : decode cX1_feed 92 = .ok (.getfield 31, 3) := by decide +kernel
theorem dX1_feed_95 : decode cX1_feed 95 = .ok (.iload_n 3, 1) := by decide +kernel
theorem dX1_feed_96 : decode cX1_feed 96 = .ok (.iadd, 1) := by decide +kernel
theorem dX1_feed_97 : decode cX1_feed 97 = .ok (.putfield 31, 3) := by decide +kernel
theorem dX1_feed_100 : decode cX1_feed 100 = .ok (.aload_n 0, 1) := by decide +kernel
theorem dX1_feed_101 : decode cX1_feed 101 = .ok (.getfield 31, 3) := by decide +kernel
theorem dX1_feed_104 : decode cX1_feed 104 = .ok (.ireturn, 1) := by decide +kernel
theorem dX1_piece_0 : decode cX1_piece 0 = .ok (.iload 5, 2) := by decide +kernel
theorem dX1_piece_2 : decode cX1_piece 2 = .ok (.iconst 1, 1) := by decide +kernel
theorem dX1_piece_3 : decode cX1_piece 3 = .ok (.if_icmp .lt 16, 3) := by decide +kernel
theorem dX1_piece_6 : decode cX1_piece 6 = .ok (.iload 5, 2) := by decide +kernel
theorem dX1_piece_8 : decode cX1_piece 8 = .ok (.sipush 1480, 3) := by decide +kernel
theorem dX1_piece_11 : decode cX1_piece 11 = .ok (.if_icmp .gt 8, 3) := by decide +kernel
theorem dX1_piece_14 : decode cX1_piece 14 = .ok (.iload 4, 2) := by decide +kernel
theorem dX1_piece_16 : decode cX1_piece 16 = .ok (.ifCond .ge 13, 3) := by decide +kernel
theorem dX1_piece_19 : decode cX1_piece 19 = .ok (.new 24, 3) := by decide +kernel
theorem dX1_piece_22 : decode cX1_piece 22 = .ok (.dup, 1) := by decide +kernel
theorem dX1_piece_23 : decode cX1_piece 23 = .ok (.ldc 40, 2) := by decide +kernel
theorem dX1_piece_25 : decode cX1_piece 25 = .ok (.invokespecial 28, 3) := by decide +kernel
theorem dX1_piece_28 : decode cX1_piece 28 = .ok (.athrow, 1) := by decide +kernel
theorem dX1_piece_29 : decode cX1_piece 29 = .ok (.aload_n 0, 1) := by decide +kernel
theorem dX1_piece_30 : decode cX1_piece 30 = .ok (.getfield 31, 3) := by decide +kernel
theorem dX1_piece_33 : decode cX1_piece 33 = .ok (.ifCond .eq 15, 3) := by decide +kernel
theorem dX1_piece_36 : decode cX1_piece 36 = .ok (.iload 4, 2) := by decide +kernel
theorem dX1_piece_38 : decode cX1_piece 38 = .ok (.iload 5, 2) := by decide +kernel
theorem dX1_piece_40 : decode cX1_piece 40 = .ok (.aload_n 0, 1) := by decide +kernel
theorem dX1_piece_41 : decode cX1_piece 41 = .ok (.getfield 31, 3) := by decide +kernel
theorem dX1_piece_44 : decode cX1_piece 44 = .ok (.isub, 1) := by decide +kernel
theorem dX1_piece_45 : decode cX1_piece 45 = .ok (.if_icmp .le 13, 3) := by decide +kernel
theorem dX1_piece_48 : decode cX1_piece 48 = .ok (.new 35, 3) := by decide +kernel
theorem dX1_piece_51 : decode cX1_piece 51 = .ok (.dup, 1) := by decide +kernel
theorem dX1_piece_52 : decode cX1_piece 52 = .ok (.ldc 42, 2) := by decide +kernel
theorem dX1_piece_54 : decode cX1_piece 54 = .ok (.invokespecial 39, 3) := by decide +kernel
theorem dX1_piece_57 : decode cX1_piece 57 = .ok (.athrow, 1) := by decide +kernel
theorem dX1_piece_58 : decode cX1_piece 58 = .ok (.aload_n 0, 1) := by decide +kernel
theorem dX1_piece_59 : decode cX1_piece 59 = .ok (.getfield 31, 3) := by decide +kernel
theorem dX1_piece_62 : decode cX1_piece 62 = .ok (.istore 6, 2) := by decide +kernel
theorem dX1_piece_64 : decode cX1_piece 64 = .ok (.aload_n 0, 1) := by decide +kernel
theorem dX1_piece_65 : decode cX1_piece 65 = .ok (.iconst 0, 1) := by decide +kernel
theorem dX1_piece_66 : decode cX1_piece 66 = .ok (.putfield 31, 3) := by decide +kernel
theorem dX1_piece_69 : decode cX1_piece 69 = .ok (.aload_n 0, 1) := by decide +kernel
theorem dX1_piece_70 : decode cX1_piece 70 = .ok (.iload_n 1, 1) := by decide +kernel
theorem dX1_piece_71 : decode cX1_piece 71 = .ok (.iload_n 2, 1) := by decide +kernel
theorem dX1_piece_72 : decode cX1_piece 72 = .ok (.iload_n 3, 1) := by decide +kernel
theorem dX1_piece_73 : decode cX1_piece 73 = .ok (.invokevirtual 44, 3) := by decide +kernel
theorem dX1_piece_76 : decode cX1_piece 76 = .ok (.istore 7, 2) := by decide +kernel
theorem dX1_piece_78 : decode cX1_piece 78 = .ok (.iload 7, 2) := by decide +kernel
theorem dX1_piece_80 : decode cX1_piece 80 = .ok (.iconst (-1), 1) := by decide +kernel
theorem dX1_piece_81 : decode cX1_piece 81 = .ok (.if_icmp .ne 14, 3) := by decide +kernel
theorem dX1_piece_84 : decode cX1_piece 84 = .ok (.aload_n 0, 1) := by decide +kernel
theorem dX1_piece_85 : decode cX1_piece 85 = .ok (.iload_n 1, 1) := by decide +kernel
theorem dX1_piece_86 : decode cX1_piece 86 = .ok (.iload_n 2, 1) := by decide +kernel
theorem dX1_piece_87 : decode cX1_piece 87 = .ok (.iload_n 3, 1) := by decide +kernel
theorem dX1_piece_88 : decode cX1_piece 88 = .ok (.iload 5, 2) := by decide +kernel
theorem dX1_piece_90 : decode cX1_piece 90 = .ok (.invokevirtual 48, 3) := by decide +kernel
theorem dX1_piece_93 : decode cX1_piece 93 = .ok (.istore 7, 2) := by decide +kernel
theorem dX1_piece_95 : decode cX1_piece 95 = .ok (.aload_n 0, 1) := by decide +kernel
theorem dX1_piece_96 : decode cX1_piece 96 = .ok (.getfield 15, 3) := by decide +kernel
theorem dX1_piece_99 : decode cX1_piece 99 = .ok (.iload 7, 2) := by decide +kernel
theorem dX1_piece_101 : decode cX1_piece 101 = .ok (.aaload, 1) := by decide +kernel
theorem dX1_piece_102 : decode cX1_piece 102 = .ok (.astore 8, 2) := by decide +kernel
theorem dX1_piece_104 : decode cX1_piece 104 = .ok (.aload 8, 2) := by decide +kernel
theorem dX1_piece_106 : decode cX1_piece 106 = .ok (.getfield 52, 3) := by decide +kernel
theorem dX1_piece_109 : decode cX1_piece 109 = .ok (.iload 5, 2) := by decide +kernel
theorem dX1_piece_111 : decode cX1_piece 111 = .ok (.if_icmp .eq 5, 3) := by decide +kernel
theorem dX1_piece_114 : decode cX1_piece 114 = .ok (.iconst (-1), 1) := by decide +kernel
theorem dX1_piece_115 : decode cX1_piece 115 = .ok (.ireturn, 1) := by decide +kernel
theorem dX1_piece_116 : decode cX1_piece 116 = .ok (.aload 8, 2) := by decide +kernel
theorem dX1_piece_118 : decode cX1_piece 118 = .ok (.aload_n 0, 1) := by decide +kernel
theorem dX1_piece_119 : decode cX1_piece 119 = .ok (.getfield 9, 3) := by decide +kernel
theorem dX1_piece_122 : decode cX1_piece 122 = .ok (.iload 6, 2) := by decide +kernel
theorem dX1_piece_124 : decode cX1_piece 124 = .ok (.iload 4, 2) := by decide +kernel
theorem dX1_piece_126 : decode cX1_piece 126 = .ok (.invokevirtual 55, 3) := by decide +kernel
theorem dX1_piece_129 : decode cX1_piece 129 = .ok (.aload 8, 2) := by decide +kernel
theorem dX1_piece_131 : decode cX1_piece 131 = .ok (.getfield 59, 3) := by decide +kernel
theorem dX1_piece_134 : decode cX1_piece 134 = .ok (.ifCond .le 5, 3) := by decide +kernel
theorem dX1_piece_137 : decode cX1_piece 137 = .ok (.iconst 0, 1) := by decide +kernel
theorem dX1_piece_138 : decode cX1_piece 138 = .ok (.ireturn, 1) := by decide +kernel
theorem dX1_piece_139 : decode cX1_piece 139 = .ok (.aload_n 0, 1) := by decide +kernel
theorem dX1_piece_140 : decode cX1_piece 140 = .ok (.iload 7, 2) := by decide +kernel
theorem dX1_piece_142 : decode cX1_piece 142 = .ok (.invokevirtual 62, 3) := by decide +kernel
theorem dX1_piece_145 : decode cX1_piece 145 = .ok (.iconst 1, 1) := by decide +kernel
theorem dX1_piece_146 : decode cX1_piece 146 = .ok (.ireturn, 1) := by decide +kernel
theorem dX1_pass_0 : decode cX1_pass 0 = .ok (.iload_n 1, 1) := by decide +kernel
theorem dX1_pass_1 : decode cX1_pass 1 = .ok (.ifCond .lt 9, 3) := by decide +kernel
theorem dX1_pass_4 : decode cX1_pass 4 = .ok (.iload_n 1, 1) := by decide +kernel
theorem dX1_pass_5 : decode cX1_pass 5 = .ok (.ldc 66, 2) := by decide +kernel
theorem dX1_pass_7 : decode cX1_pass 7 = .ok (.if_icmp .le 13, 3) := by decide +kernel
theorem dX1_pass_10 : decode cX1_pass 10 = .ok (.new 24, 3) := by decide +kernel
theorem dX1_pass_13 : decode cX1_pass 13 = .ok (.dup, 1) := by decide +kernel
theorem dX1_pass_14 : decode cX1_pass 14 = .ok (.ldc 67, 2) := by decide +kernel
theorem dX1_pass_16 : decode cX1_pass 16 = .ok (.invokespecial 28, 3) := by decide +kernel
theorem dX1_pass_19 : decode cX1_pass 19 = .ok (.athrow, 1) := by decide +kernel
theorem dX1_pass_20 : decode cX1_pass 20 = .ok (.iload_n 1, 1) := by decide +kernel
theorem dX1_pass_21 : decode cX1_pass 21 = .ok (.ldc 69, 2) := by decide +kernel
theorem dX1_pass_23 : decode cX1_pass 23 = .ok (.aload_n 0, 1) := by decide +kernel
theorem dX1_pass_24 : decode cX1_pass 24 = .ok (.getfield 70, 3) := by decide +kernel
theorem dX1_pass_27 : decode cX1_pass 27 = .ok (.isub, 1) := by decide +kernel
theorem dX1_pass_28 : decode cX1_pass 28 = .ok (.if_icmp .le 13, 3) := by decide +kernel
theorem dX1_pass_31 : decode cX1_pass 31 = .ok (.new 35, 3) := by decide +kernel
theorem dX1_pass_34 : decode cX1_pass 34 = .ok (.dup, 1) := by decide +kernel
theorem dX1_pass_35 : decode cX1_pass 35 = .ok (.ldc 73, 2) := by decide +kernel
theorem dX1_pass_37 : decode cX1_pass 37 = .ok (.invokespecial 39, 3) := by decide +kernel
theorem dX1_pass_40 : decode cX1_pass 40 = .ok (.athrow, 1) := by decide +kernel
theorem dX1_pass_41 : decode cX1_pass 41 = .ok (.aload_n 0, 1) := by decide +kernel
theorem dX1_pass_42 : decode cX1_pass 42 = .ok (.dup, 1) := by decide +kernel
theorem dX1_pass_43 : decode cX1_pass 43 = .ok (.getfield 70, 3) := by decide +kernel
theorem dX1_pass_46 : decode cX1_pass 46 = .ok (.iload_n 1, 1) := by decide +kernel
theorem dX1_pass_47 : decode cX1_pass 47 = .ok (.iadd, 1) := by decide +kernel
theorem dX1_pass_48 : decode cX1_pass 48 = .ok (.putfield 70, 3) := by decide +kernel
theorem dX1_pass_51 : decode cX1_pass 51 = .ok (.aload_n 0, 1) := by decide +kernel
theorem dX1_pass_52 : decode cX1_pass 52 = .ok (.invokevirtual 75, 3) := by decide +kernel
theorem dX1_pass_55 : decode cX1_pass 55 = .ok (.ireturn, 1) := by decide +kernel
theorem dX1_about_0 : decode cX1_about 0 = .ok (.iload_n 1, 1) := by decide +kernel
theorem dX1_about_1 : decode cX1_about 1 = .ok (.ifCond .lt 8, 3) := by decide +kernel
theorem dX1_about_4 : decode cX1_about 4 = .ok (.iload_n 1, 1) := by decide +kernel
theorem dX1_about_5 : decode cX1_about 5 = .ok (.iconst 3, 1) := by decide +kernel
theorem dX1_about_6 : decode cX1_about 6 = .ok (.if_icmp .le 13, 3) := by decide +kernel
theorem dX1_about_9 : decode cX1_about 9 = .ok (.new 24, 3) := by decide +kernel
theorem dX1_about_12 : decode cX1_about 12 = .ok (.dup, 1) := by decide +kernel
theorem dX1_about_13 : decode cX1_about 13 = .ok (.ldc 79, 2) := by decide +kernel
theorem dX1_about_15 : decode cX1_about 15 = .ok (.invokespecial 28, 3) := by decide +kernel
theorem dX1_about_18 : decode cX1_about 18 = .ok (.athrow, 1) := by decide +kernel
theorem dX1_about_19 : decode cX1_about 19 = .ok (.aload_n 0, 1) := by decide +kernel
theorem dX1_about_20 : decode cX1_about 20 = .ok (.getfield 81, 3) := by decide +kernel
theorem dX1_about_23 : decode cX1_about 23 = .ok (.ifCond .ne 13, 3) := by decide +kernel
theorem dX1_about_26 : decode cX1_about 26 = .ok (.new 35, 3) := by decide +kernel
theorem dX1_about_29 : decode cX1_about 29 = .ok (.dup, 1) := by decide +kernel
theorem dX1_about_30 : decode cX1_about 30 = .ok (.ldc 85, 2) := by decide +kernel
theorem dX1_about_32 : decode cX1_about 32 = .ok (.invokespecial 39, 3) := by decide +kernel
theorem dX1_about_35 : decode cX1_about 35 = .ok (.athrow, 1) := by decide +kernel
theorem dX1_about_36 : decode cX1_about 36 = .ok (.iload_n 1, 1) := by decide +kernel
theorem dX1_about_37 : decode cX1_about 37 = .ok (.tableswitch 51 0 2 #[27, 35, 43], 27) := by decide +kernel
theorem dX1_about_64 : decode cX1_about 64 = .ok (.aload_n 0, 1) := by decide +kernel
theorem dX1_about_65 : decode cX1_about 65 = .ok (.getfield 20, 3) := by decide +kernel
theorem dX1_about_68 : decode cX1_about 68 = .ok (.getfield 87, 3) := by decide +kernel
theorem dX1_about_71 : decode cX1_about 71 = .ok (.ireturn, 1) := by decide +kernel
theorem dX1_about_72 : decode cX1_about 72 = .ok (.aload_n 0, 1) := by decide +kernel
theorem dX1_about_73 : decode cX1_about 73 = .ok (.getfield 20, 3) := by decide +kernel
theorem dX1_about_76 : decode cX1_about 76 = .ok (.getfield 90, 3) := by decide +kernel
theorem dX1_about_79 : decode cX1_about 79 = .ok (.ireturn, 1) := by decide +kernel
theorem dX1_about_80 : decode cX1_about 80 = .ok (.aload_n 0, 1) := by decide +kernel
theorem dX1_about_81 : decode cX1_about 81 = .ok (.getfield 20, 3) := by decide +kernel
theorem dX1_about_84 : decode cX1_about 84 = .ok (.getfield 93, 3) := by decide +kernel
theorem dX1_about_87 : decode cX1_about 87 = .ok (.ireturn, 1) := by decide +kernel
theorem dX1_about_88 : decode cX1_about 88 = .ok (.aload_n 0, 1) := by decide +kernel
theorem dX1_about_89 : decode cX1_about 89 = .ok (.getfield 20, 3) := by decide +kernel
theorem dX1_about_92 : decode cX1_about 92 = .ok (.getfield 52, 3) := by decide +kernel
theorem dX1_about_95 : decode cX1_about 95 = .ok (.ireturn, 1) := by decide +kernel
theorem dX1_byteAt_0 : decode cX1_byteAt 0 = .ok (.aload_n 0, 1) := by decide +kernel
theorem dX1_byteAt_1 : decode cX1_byteAt 1 = .ok (.getfield 81, 3) := by decide +kernel
theorem dX1_byteAt_4 : decode cX1_byteAt 4 = .ok (.ifCond .ne 13, 3) := by decide +kernel
theorem dX1_byteAt_7 : decode cX1_byteAt 7 = .ok (.new 35, 3) := by decide +kernel
theorem dX1_byteAt_10 : decode cX1_byteAt 10 = .ok (.dup, 1) := by decide +kernel
theorem dX1_byteAt_11 : decode cX1_byteAt 11 = .ok (.ldc 85, 2) := by decide +kernel
theorem dX1_byteAt_13 : decode cX1_byteAt 13 = .ok (.invokespecial 39, 3) := by decide +kernel
theorem dX1_byteAt_16 : decode cX1_byteAt 16 = .ok (.athrow, 1) := by decide +kernel
theorem dX1_byteAt_17 : decode cX1_byteAt 17 = .ok (.iload_n 1, 1) := by decide +kernel
theorem dX1_byteAt_18 : decode cX1_byteAt 18 = .ok (.ifCond .lt 14, 3) := by decide +kernel
theorem dX1_byteAt_21 : decode cX1_byteAt 21 = .ok (.iload_n 1, 1) := by decide +kernel
theorem dX1_byteAt_22 : decode cX1_byteAt 22 = .ok (.aload_n 0, 1) := by decide +kernel
theorem dX1_byteAt_23 : decode cX1_byteAt 23 = .ok (.getfield 20, 3) := by decide +kernel
theorem dX1_byteAt_26 : decode cX1_byteAt 26 = .ok (.getfield 52, 3) := by decide +kernel
theorem dX1_byteAt_29 : decode cX1_byteAt 29 = .ok (.if_icmp .lt 13, 3) := by decide +kernel
theorem dX1_byteAt_32 : decode cX1_byteAt 32 = .ok (.new 96, 3) := by decide +kernel
theorem dX1_byteAt_35 : decode cX1_byteAt 35 = .ok (.dup, 1) := by decide +kernel
theorem dX1_byteAt_36 : decode cX1_byteAt 36 = .ok (.ldc 98, 2) := by decide +kernel
theorem dX1_byteAt_38 : decode cX1_byteAt 38 = .ok (.invokespecial 100, 3) := by decide +kernel
theorem dX1_byteAt_41 : decode cX1_byteAt 41 = .ok (.athrow, 1) := by decide +kernel
theorem dX1_byteAt_42 : decode cX1_byteAt 42 = .ok (.aload_n 0, 1) := by decide +kernel
theorem dX1_byteAt_43 : decode cX1_byteAt 43 = .ok (.getfield 20, 3) := by decide +kernel
theorem dX1_byteAt_46 : decode cX1_byteAt 46 = .ok (.getfield 101, 3) := by decide +kernel
theorem dX1_byteAt_49 : decode cX1_byteAt 49 = .ok (.iload_n 1, 1) := by decide +kernel
theorem dX1_byteAt_50 : decode cX1_byteAt 50 = .ok (.iaload, 1) := by decide +kernel
theorem dX1_byteAt_51 : decode cX1_byteAt 51 = .ok (.ireturn, 1) := by decide +kernel
theorem dX1_missing_0 : decode cX1_missing 0 = .ok (.aload_n 0, 1) := by decide +kernel
theorem dX1_missing_1 : decode cX1_missing 1 = .ok (.iload_n 1, 1) := by decide +kernel
theorem dX1_missing_2 : decode cX1_missing 2 = .ok (.iload_n 2, 1) := by decide +kernel
theorem dX1_missing_3 : decode cX1_missing 3 = .ok (.iload_n 3, 1) := by decide +kernel
theorem dX1_missing_4 : decode cX1_missing 4 = .ok (.invokevirtual 44, 3) := by decide +kernel
theorem dX1_missing_7 : decode cX1_missing 7 = .ok (.istore 4, 2) := by decide +kernel
theorem dX1_missing_9 : decode cX1_missing 9 = .ok (.iload 4, 2) := by decide +kernel
theorem dX1_missing_11 : decode cX1_missing 11 = .ok (.iconst (-1), 1) := by decide +kernel
theorem dX1_missing_12 : decode cX1_missing 12 = .ok (.if_icmp .ne 7, 3) := by decide +kernel
theorem dX1_missing_15 : decode cX1_missing 15 = .ok (.iconst (-1), 1) := by decide +kernel
theorem dX1_missing_16 : decode cX1_missing 16 = .ok (.goto 13, 3) := by decide +kernel
theorem dX1_missing_19 : decode cX1_missing 19 = .ok (.aload_n 0, 1) := by decide +kernel
theorem dX1_missing_20 : decode cX1_missing 20 = .ok (.getfield 15, 3) := by decide +kernel
theorem dX1_missing_23 : decode cX1_missing 23 = .ok (.iload 4, 2) := by decide +kernel
theorem dX1_missing_25 : decode cX1_missing 25 = .ok (.aaload, 1) := by decide +kernel
theorem dX1_missing_26 : decode cX1_missing 26 = .ok (.getfield 59, 3) := by decide +kernel
theorem dX1_missing_29 : decode cX1_missing 29 = .ok (.ireturn, 1) := by decide +kernel
theorem dX1_has_0 : decode cX1_has 0 = .ok (.aload_n 0, 1) := by decide +kernel
theorem dX1_has_1 : decode cX1_has 1 = .ok (.iload_n 1, 1) := by decide +kernel
theorem dX1_has_2 : decode cX1_has 2 = .ok (.iload_n 2, 1) := by decide +kernel
theorem dX1_has_3 : decode cX1_has 3 = .ok (.iload_n 3, 1) := by decide +kernel
theorem dX1_has_4 : decode cX1_has 4 = .ok (.invokevirtual 44, 3) := by decide +kernel
theorem dX1_has_7 : decode cX1_has 7 = .ok (.istore 5, 2) := by decide +kernel
theorem dX1_has_9 : decode cX1_has 9 = .ok (.iload 5, 2) := by decide +kernel
theorem dX1_has_11 : decode cX1_has 11 = .ok (.iconst (-1), 1) := by decide +kernel
theorem dX1_has_12 : decode cX1_has 12 = .ok (.if_icmp .eq 22, 3) := by decide +kernel
theorem dX1_has_15 : decode cX1_has 15 = .ok (.aload_n 0, 1) := by decide +kernel
theorem dX1_has_16 : decode cX1_has 16 = .ok (.getfield 15, 3) := by decide +kernel
theorem dX1_has_19 : decode cX1_has 19 = .ok (.iload 5, 2) := by decide +kernel
theorem dX1_has_21 : decode cX1_has 21 = .ok (.aaload, 1) := by decide +kernel
theorem dX1_has_22 : decode cX1_has 22 = .ok (.iload 4, 2) := by decide +kernel
theorem dX1_has_24 : decode cX1_has 24 = .ok (.invokevirtual 104, 3) := by decide +kernel
theorem dX1_has_27 : decode cX1_has 27 = .ok (.ifCond .eq 7, 3) := by decide +kernel
theorem dX1_has_30 : decode cX1_has 30 = .ok (.iconst 1, 1) := by decide +kernel
theorem dX1_has_31 : decode cX1_has 31 = .ok (.goto 4, 3) := by decide +kernel
theorem dX1_has_34 : decode cX1_has 34 = .ok (.iconst 0, 1) := by decide +kernel
theorem dX1_has_35 : decode cX1_has 35 = .ok (.ireturn, 1) := by decide +kernel
theorem dX1_waiting_0 : decode cX1_waiting 0 = .ok (.aload_n 0, 1) := by decide +kernel
theorem dX1_waiting_1 : decode cX1_waiting 1 = .ok (.getfield 108, 3) := by decide +kernel
theorem dX1_waiting_4 : decode cX1_waiting 4 = .ok (.ireturn, 1) := by decide +kernel
theorem dX1_placeOf_0 : decode cX1_placeOf 0 = .ok (.iconst 0, 1) := by decide +kernel
theorem dX1_placeOf_1 : decode cX1_placeOf 1 = .ok (.istore 4, 2) := by decide +kernel
theorem dX1_placeOf_3 : decode cX1_placeOf 3 = .ok (.iload 4, 2) := by decide +kernel
theorem dX1_placeOf_5 : decode cX1_placeOf 5 = .ok (.aload_n 0, 1) := by decide +kernel
theorem dX1_placeOf_6 : decode cX1_placeOf 6 = .ok (.getfield 108, 3) := by decide +kernel
theorem dX1_placeOf_9 : decode cX1_placeOf 9 = .ok (.if_icmp .ge 28, 3) := by decide +kernel
theorem dX1_placeOf_12 : decode cX1_placeOf 12 = .ok (.aload_n 0, 1) := by decide +kernel
theorem dX1_placeOf_13 : decode cX1_placeOf 13 = .ok (.getfield 15, 3) := by decide +kernel
theorem dX1_placeOf_16 : decode cX1_placeOf 16 = .ok (.iload 4, 2) := by decide +kernel
theorem dX1_placeOf_18 : decode cX1_placeOf 18 = .ok (.aaload, 1) := by decide +kernel
theorem dX1_placeOf_19 : decode cX1_placeOf 19 = .ok (.iload_n 1, 1) := by decide +kernel
theorem dX1_placeOf_20 : decode cX1_placeOf 20 = .ok (.iload_n 2, 1) := by decide +kernel
theorem dX1_placeOf_21 : decode cX1_placeOf 21 = .ok (.iload_n 3, 1) := by decide +kernel
theorem dX1_placeOf_22 : decode cX1_placeOf 22 = .ok (.invokevirtual 111, 3) := by decide +kernel
theorem dX1_placeOf_25 : decode cX1_placeOf 25 = .ok (.ifCond .eq 6, 3) := by decide +kernel
theorem dX1_placeOf_28 : decode cX1_placeOf 28 = .ok (.iload 4, 2) := by decide +kernel
theorem dX1_placeOf_30 : decode cX1_placeOf 30 = .ok (.ireturn, 1) := by decide +kernel
theorem dX1_placeOf_31 : decode cX1_placeOf 31 = .ok (.iinc 4 1, 3) := by decide +kernel
theorem dX1_placeOf_34 : decode cX1_placeOf 34 = .ok (.goto (-31), 3) := by decide +kernel
theorem dX1_placeOf_37 : decode cX1_placeOf 37 = .ok (.iconst (-1), 1) := by decide +kernel
theorem dX1_placeOf_38 : decode cX1_placeOf 38 = .ok (.ireturn, 1) := by decide +kernel
theorem dX1_beginOnBench_0 : decode cX1_beginOnBench 0 = .ok (.aload_n 0, 1) := by decide +kernel
theorem dX1_beginOnBench_1 : decode cX1_beginOnBench 1 = .ok (.getfield 108, 3) := by decide +kernel
theorem dX1_beginOnBench_4 : decode cX1_beginOnBench 4 = .ok (.iconst 4, 1) := by decide +kernel
theorem dX1_beginOnBench_5 : decode cX1_beginOnBench 5 = .ok (.if_icmp .ne 8, 3) := by decide +kernel
theorem dX1_beginOnBench_8 : decode cX1_beginOnBench 8 = .ok (.aload_n 0, 1) := by decide +kernel
theorem dX1_beginOnBench_9 : decode cX1_beginOnBench 9 = .ok (.iconst 0, 1) := by decide +kernel
theorem dX1_beginOnBench_10 : decode cX1_beginOnBench 10 = .ok (.invokevirtual 115, 3) := by decide +kernel
theorem dX1_beginOnBench_13 : decode cX1_beginOnBench 13 = .ok (.aload_n 0, 1) := by decide +kernel
theorem dX1_beginOnBench_14 : decode cX1_beginOnBench 14 = .ok (.getfield 108, 3) := by decide +kernel
theorem dX1_beginOnBench_17 : decode cX1_beginOnBench 17 = .ok (.istore 5, 2) := by decide +kernel
theorem dX1_beginOnBench_19 : decode cX1_beginOnBench 19 = .ok (.aload_n 0, 1) := by decide +kernel
theorem dX1_beginOnBench_20 : decode cX1_beginOnBench 20 = .ok (.getfield 15, 3) := by decide +kernel
theorem dX1_beginOnBench_23 : decode cX1_beginOnBench 23 = .ok (.iload 5, 2) := by decide +kernel
theorem dX1_beginOnBench_25 : decode cX1_beginOnBench 25 = .ok (.aaload, 1) := by decide +kernel
theorem dX1_beginOnBench_26 : decode cX1_beginOnBench 26 = .ok (.iload_n 1, 1) := by decide +kernel
theorem dX1_beginOnBench_27 : decode cX1_beginOnBench 27 = .ok (.iload_n 2, 1) := by decide +kernel
theorem dX1_beginOnBench_28 : decode cX1_beginOnBench 28 = .ok (.iload_n 3, 1) := by decide +kernel
theorem dX1_beginOnBench_29 : decode cX1_beginOnBench 29 = .ok (.iload 4, 2) := by decide +kernel
theorem dX1_beginOnBench_31 : decode cX1_beginOnBench 31 = .ok (.aload_n 0, 1) := by decide +kernel
theorem dX1_beginOnBench_32 : decode cX1_beginOnBench 32 = .ok (.getfield 70, 3) := by decide +kernel
theorem dX1_beginOnBench_35 : decode cX1_beginOnBench 35 = .ok (.invokevirtual 118, 3) := by decide +kernel
theorem dX1_beginOnBench_38 : decode cX1_beginOnBench 38 = .ok (.aload_n 0, 1) := by decide +kernel
theorem dX1_beginOnBench_39 : decode cX1_beginOnBench 39 = .ok (.dup, 1) := by decide +kernel
theorem dX1_beginOnBench_40 : decode cX1_beginOnBench 40 = .ok (.getfield 108, 3) := by decide +kernel
theorem dX1_beginOnBench_43 : decode cX1_beginOnBench 43 = .ok (.iconst 1, 1) := by decide +kernel
theorem dX1_beginOnBench_44 : decode cX1_beginOnBench 44 = .ok (.iadd, 1) := by decide +kernel
theorem dX1_beginOnBench_45 : decode cX1_beginOnBench 45 = .ok (.putfield 108, 3) := by decide +kernel
theorem dX1_beginOnBench_48 : decode cX1_beginOnBench 48 = .ok (.iload 5, 2) := by decide +kernel
theorem dX1_beginOnBench_50 : decode cX1_beginOnBench 50 = .ok (.ireturn, 1) := by decide +kernel
theorem dX1_forget_0 : decode cX1_forget 0 = .ok (.aload_n 0, 1) := by decide +kernel
theorem dX1_forget_1 : decode cX1_forget 1 = .ok (.getfield 15, 3) := by decide +kernel
theorem dX1_forget_4 : decode cX1_forget 4 = .ok (.iload_n 1, 1) := by decide +kernel
theorem dX1_forget_5 : decode cX1_forget 5 = .ok (.aaload, 1) := by decide +kernel
theorem dX1_forget_6 : decode cX1_forget 6 = .ok (.astore_n 2, 1) := by decide +kernel
theorem dX1_forget_7 : decode cX1_forget 7 = .ok (.aload_n 0, 1) := by decide +kernel
theorem dX1_forget_8 : decode cX1_forget 8 = .ok (.dup, 1) := by decide +kernel
theorem dX1_forget_9 : decode cX1_forget 9 = .ok (.getfield 108, 3) := by decide +kernel
theorem dX1_forget_12 : decode cX1_forget 12 = .ok (.iconst 1, 1) := by decide +kernel
theorem dX1_forget_13 : decode cX1_forget 13 = .ok (.isub, 1) := by decide +kernel
theorem dX1_forget_14 : decode cX1_forget 14 = .ok (.putfield 108, 3) := by decide +kernel
theorem dX1_forget_17 : decode cX1_forget 17 = .ok (.iload_n 1, 1) := by decide +kernel
theorem dX1_forget_18 : decode cX1_forget 18 = .ok (.istore_n 3, 1) := by decide +kernel
theorem dX1_forget_19 : decode cX1_forget 19 = .ok (.iload_n 3, 1) := by decide +kernel
theorem dX1_forget_20 : decode cX1_forget 20 = .ok (.aload_n 0, 1) := by decide +kernel
theorem dX1_forget_21 : decode cX1_forget 21 = .ok (.getfield 108, 3) := by decide +kernel
theorem dX1_forget_24 : decode cX1_forget 24 = .ok (.if_icmp .ge 23, 3) := by decide +kernel
theorem dX1_forget_27 : decode cX1_forget 27 = .ok (.aload_n 0, 1) := by decide +kernel
theorem dX1_forget_28 : decode cX1_forget 28 = .ok (.getfield 15, 3) := by decide +kernel
theorem dX1_forget_31 : decode cX1_forget 31 = .ok (.iload_n 3, 1) := by decide +kernel
theorem dX1_forget_32 : decode cX1_forget 32 = .ok (.aload_n 0, 1) := by decide +kernel
theorem dX1_forget_33 : decode cX1_forget 33 = .ok (.getfield 15, 3) := by decide +kernel
theorem dX1_forget_36 : decode cX1_forget 36 = .ok (.iload_n 3, 1) := by decide +kernel
theorem dX1_forget_37 : decode cX1_forget 37 = .ok (.iconst 1, 1) := by decide +kernel
theorem dX1_forget_38 : decode cX1_forget 38 = .ok (.iadd, 1) := by decide +kernel
theorem dX1_forget_39 : decode cX1_forget 39 = .ok (.aaload, 1) := by decide +kernel
theorem dX1_forget_40 : decode cX1_forget 40 = .ok (.aastore, 1) := by decide +kernel
theorem dX1_forget_41 : decode cX1_forget 41 = .ok (.iinc 3 1, 3) := by decide +kernel
theorem dX1_forget_44 : decode cX1_forget 44 = .ok (.goto (-25), 3) := by decide +kernel
theorem dX1_forget_47 : decode cX1_forget 47 = .ok (.aload_n 0, 1) := by decide +kernel
theorem dX1_forget_48 : decode cX1_forget 48 = .ok (.getfield 15, 3) := by decide +kernel
theorem dX1_forget_51 : decode cX1_forget 51 = .ok (.aload_n 0, 1) := by decide +kernel
theorem dX1_forget_52 : decode cX1_forget 52 = .ok (.getfield 108, 3) := by decide +kernel
theorem dX1_forget_55 : decode cX1_forget 55 = .ok (.aload_n 2, 1) := by decide +kernel
theorem dX1_forget_56 : decode cX1_forget 56 = .ok (.aastore, 1) := by decide +kernel
theorem dX1_forget_57 : decode cX1_forget 57 = .ok (.return_, 1) := by decide +kernel
theorem dX1_finish_0 : decode cX1_finish 0 = .ok (.aload_n 0, 1) := by decide +kernel
theorem dX1_finish_1 : decode cX1_finish 1 = .ok (.iload_n 1, 1) := by decide +kernel
theorem dX1_finish_2 : decode cX1_finish 2 = .ok (.invokevirtual 115, 3) := by decide +kernel
theorem dX1_finish_5 : decode cX1_finish 5 = .ok (.aload_n 0, 1) := by decide +kernel
theorem dX1_finish_6 : decode cX1_finish 6 = .ok (.getfield 20, 3) := by decide +kernel
theorem dX1_finish_9 : decode cX1_finish 9 = .ok (.astore_n 2, 1) := by decide +kernel
theorem dX1_finish_10 : decode cX1_finish 10 = .ok (.aload_n 0, 1) := by decide +kernel
theorem dX1_finish_11 : decode cX1_finish 11 = .ok (.aload_n 0, 1) := by decide +kernel
theorem dX1_finish_12 : decode cX1_finish 12 = .ok (.getfield 15, 3) := by decide +kernel
theorem dX1_finish_15 : decode cX1_finish 15 = .ok (.aload_n 0, 1) := by decide +kernel
theorem dX1_finish_16 : decode cX1_finish 16 = .ok (.getfield 108, 3) := by decide +kernel
theorem dX1_finish_19 : decode cX1_finish 19 = .ok (.aaload, 1) := by decide +kernel
theorem dX1_finish_20 : decode cX1_finish 20 = .ok (.putfield 20, 3) := by decide +kernel
theorem dX1_finish_23 : decode cX1_finish 23 = .ok (.aload_n 0, 1) := by decide +kernel
theorem dX1_finish_24 : decode cX1_finish 24 = .ok (.getfield 15, 3) := by decide +kernel
theorem dX1_finish_27 : decode cX1_finish 27 = .ok (.aload_n 0, 1) := by decide +kernel
theorem dX1_finish_28 : decode cX1_finish 28 = .ok (.getfield 108, 3) := by decide +kernel
theorem dX1_finish_31 : decode cX1_finish 31 = .ok (.aload_n 2, 1) := by decide +kernel
theorem dX1_finish_32 : decode cX1_finish 32 = .ok (.aastore, 1) := by decide +kernel
theorem dX1_finish_33 : decode cX1_finish 33 = .ok (.aload_n 0, 1) := by decide +kernel
theorem dX1_finish_34 : decode cX1_finish 34 = .ok (.iconst 1, 1) := by decide +kernel
theorem dX1_finish_35 : decode cX1_finish 35 = .ok (.putfield 81, 3) := by decide +kernel
theorem dX1_finish_38 : decode cX1_finish 38 = .ok (.return_, 1) := by decide +kernel
theorem dX1_giveUpOverdue_0 : decode cX1_giveUpOverdue 0 = .ok (.iconst 0, 1) := by decide +kernel
theorem dX1_giveUpOverdue_1 : decode cX1_giveUpOverdue 1 = .ok (.istore_n 1, 1) := by decide +kernel
theorem dX1_giveUpOverdue_2 : decode cX1_giveUpOverdue 2 = .ok (.iload_n 1, 1) := by decide +kernel
theorem dX1_giveUpOverdue_3 : decode cX1_giveUpOverdue 3 = .ok (.iconst 4, 1) := by decide +kernel
theorem dX1_giveUpOverdue_4 : decode cX1_giveUpOverdue 4 = .ok (.if_icmp .ge 41, 3) := by decide +kernel
theorem dX1_giveUpOverdue_7 : decode cX1_giveUpOverdue 7 = .ok (.aload_n 0, 1) := by decide +kernel
theorem dX1_giveUpOverdue_8 : decode cX1_giveUpOverdue 8 = .ok (.getfield 108, 3) := by decide +kernel
theorem dX1_giveUpOverdue_11 : decode cX1_giveUpOverdue 11 = .ok (.ifCond .le 34, 3) := by decide +kernel
theorem dX1_giveUpOverdue_14 : decode cX1_giveUpOverdue 14 = .ok (.aload_n 0, 1) := by decide +kernel
theorem dX1_giveUpOverdue_15 : decode cX1_giveUpOverdue 15 = .ok (.getfield 70, 3) := by decide +kernel
theorem dX1_giveUpOverdue_18 : decode cX1_giveUpOverdue 18 = .ok (.aload_n 0, 1) := by decide +kernel
theorem dX1_giveUpOverdue_19 : decode cX1_giveUpOverdue 19 = .ok (.getfield 15, 3) := by decide +kernel
theorem dX1_giveUpOverdue_22 : decode cX1_giveUpOverdue 22 = .ok (.iconst 0, 1) := by decide +kernel
theorem dX1_giveUpOverdue_23 : decode cX1_giveUpOverdue 23 = .ok (.aaload, 1) := by decide +kernel
theorem dX1_giveUpOverdue_24 : decode cX1_giveUpOverdue 24 = .ok (.getfield 122, 3) := by decide +kernel
theorem dX1_giveUpOverdue_27 : decode cX1_giveUpOverdue 27 = .ok (.isub, 1) := by decide +kernel
theorem dX1_giveUpOverdue_28 : decode cX1_giveUpOverdue 28 = .ok (.sipush 300, 3) := by decide +kernel
theorem dX1_giveUpOverdue_31 : decode cX1_giveUpOverdue 31 = .ok (.if_icmp .lt 14, 3) := by decide +kernel
theorem dX1_giveUpOverdue_34 : decode cX1_giveUpOverdue 34 = .ok (.aload_n 0, 1) := by decide +kernel
theorem dX1_giveUpOverdue_35 : decode cX1_giveUpOverdue 35 = .ok (.iconst 0, 1) := by decide +kernel
theorem dX1_giveUpOverdue_36 : decode cX1_giveUpOverdue 36 = .ok (.invokevirtual 115, 3) := by decide +kernel
theorem dX1_giveUpOverdue_39 : decode cX1_giveUpOverdue 39 = .ok (.iinc 1 1, 3) := by decide +kernel
theorem dX1_giveUpOverdue_42 : decode cX1_giveUpOverdue 42 = .ok (.goto (-40), 3) := by decide +kernel
theorem dX1_giveUpOverdue_45 : decode cX1_giveUpOverdue 45 = .ok (.iload_n 1, 1) := by decide +kernel
theorem dX1_giveUpOverdue_46 : decode cX1_giveUpOverdue 46 = .ok (.ireturn, 1) := by decide +kernel
theorem dX0_init_0 : decode cX0_init 0 = .ok (.aload_n 0, 1) := by decide +kernel
theorem dX0_init_1 : decode cX0_init 1 = .ok (.invokespecial 3, 3) := by decide +kernel
theorem dX0_init_4 : decode cX0_init 4 = .ok (.aload_n 0, 1) := by decide +kernel
theorem dX0_init_5 : decode cX0_init 5 = .ok (.sipush 1480, 3) := by decide +kernel
theorem dX0_init_8 : decode cX0_init 8 = .ok (.newarray .int, 2) := by decide +kernel
theorem dX0_init_10 : decode cX0_init 10 = .ok (.putfield 9, 3) := by decide +kernel
theorem dX0_init_13 : decode cX0_init 13 = .ok (.return_, 1) := by decide +kernel
theorem dX0_begin_0 : decode cX0_begin 0 = .ok (.aload_n 0, 1) := by decide +kernel
theorem dX0_begin_1 : decode cX0_begin 1 = .ok (.iload_n 1, 1) := by decide +kernel
theorem dX0_begin_2 : decode cX0_begin 2 = .ok (.putfield 15, 3) := by decide +kernel
theorem dX0_begin_5 : decode cX0_begin 5 = .ok (.aload_n 0, 1) := by decide +kernel
theorem dX0_begin_6 : decode cX0_begin 6 = .ok (.iload_n 2, 1) := by decide +kernel
theorem dX0_begin_7 : decode cX0_begin 7 = .ok (.putfield 19, 3) := by decide +kernel
theorem dX0_begin_10 : decode cX0_begin 10 = .ok (.aload_n 0, 1) := by decide +kernel
theorem dX0_begin_11 : decode cX0_begin 11 = .ok (.iload_n 3, 1) := by decide +kernel
theorem dX0_begin_12 : decode cX0_begin 12 = .ok (.putfield 22, 3) := by decide +kernel
theorem dX0_begin_15 : decode cX0_begin 15 = .ok (.aload_n 0, 1) := by decide +kernel
theorem dX0_begin_16 : decode cX0_begin 16 = .ok (.iload 4, 2) := by decide +kernel
theorem dX0_begin_18 : decode cX0_begin 18 = .ok (.putfield 25, 3) := by decide +kernel
theorem dX0_begin_21 : decode cX0_begin 21 = .ok (.aload_n 0, 1) := by decide +kernel
theorem dX0_begin_22 : decode cX0_begin 22 = .ok (.iload 4, 2) := by decide +kernel
theorem dX0_begin_24 : decode cX0_begin 24 = .ok (.putfield 28, 3) := by decide +kernel
theorem dX0_begin_27 : decode cX0_begin 27 = .ok (.aload_n 0, 1) := by decide +kernel
theorem dX0_begin_28 : decode cX0_begin 28 = .ok (.iload 5, 2) := by decide +kernel
theorem dX0_begin_30 : decode cX0_begin 30 = .ok (.putfield 31, 3) := by decide +kernel
theorem dX0_begin_33 : decode cX0_begin 33 = .ok (.aload_n 0, 1) := by decide +kernel
theorem dX0_begin_34 : decode cX0_begin 34 = .ok (.getfield 9, 3) := by decide +kernel
theorem dX0_begin_37 : decode cX0_begin 37 = .ok (.iconst (-1), 1) := by decide +kernel
theorem dX0_begin_38 : decode cX0_begin 38 = .ok (.invokestatic 34, 3) := by decide +kernel
theorem dX0_begin_41 : decode cX0_begin 41 = .ok (.return_, 1) := by decide +kernel
theorem dX0_isTold_0 : decode cX0_isTold 0 = .ok (.aload_n 0, 1) := by decide +kernel
theorem dX0_isTold_1 : decode cX0_isTold 1 = .ok (.getfield 15, 3) := by decide +kernel
theorem dX0_isTold_4 : decode cX0_isTold 4 = .ok (.iload_n 1, 1) := by decide +kernel
theorem dX0_isTold_5 : decode cX0_isTold 5 = .ok (.if_icmp .ne 23, 3) := by decide +kernel
theorem dX0_isTold_8 : decode cX0_isTold 8 = .ok (.aload_n 0, 1) := by decide +kernel
theorem dX0_isTold_9 : decode cX0_isTold 9 = .ok (.getfield 19, 3) := by decide +kernel
theorem dX0_isTold_12 : decode cX0_isTold 12 = .ok (.iload_n 2, 1) := by decide +kernel
theorem dX0_isTold_13 : decode cX0_isTold 13 = .ok (.if_icmp .ne 15, 3) := by decide +kernel
theorem dX0_isTold_16 : decode cX0_isTold 16 = .ok (.aload_n 0, 1) := by decide +kernel
theorem dX0_isTold_17 : decode cX0_isTold 17 = .ok (.getfield 22, 3) := by decide +kernel
theorem dX0_isTold_20 : decode cX0_isTold 20 = .ok (.iload_n 3, 1) := by decide +kernel
theorem dX0_isTold_21 : decode cX0_isTold 21 = .ok (.if_icmp .ne 7, 3) := by decide +kernel
theorem dX0_isTold_24 : decode cX0_isTold 24 = .ok (.iconst 1, 1) := by decide +kernel
theorem dX0_isTold_25 : decode cX0_isTold 25 = .ok (.goto 4, 3) := by decide +kernel
theorem dX0_isTold_28 : decode cX0_isTold 28 = .ok (.iconst 0, 1) := by decide +kernel
theorem dX0_isTold_29 : decode cX0_isTold 29 = .ok (.ireturn, 1) := by decide +kernel
theorem dX0_take_0 : decode cX0_take 0 = .ok (.iconst 0, 1) := by decide +kernel
theorem dX0_take_1 : decode cX0_take 1 = .ok (.istore 4, 2) := by decide +kernel
theorem dX0_take_3 : decode cX0_take 3 = .ok (.iload 4, 2) := by decide +kernel
theorem dX0_take_5 : decode cX0_take 5 = .ok (.iload_n 2, 1) := by decide +kernel
theorem dX0_take_6 : decode cX0_take 6 = .ok (.if_icmp .ge 45, 3) := by decide +kernel
theorem dX0_take_9 : decode cX0_take 9 = .ok (.aload_n 0, 1) := by decide +kernel
theorem dX0_take_10 : decode cX0_take 10 = .ok (.getfield 9, 3) := by decide +kernel
theorem dX0_take_13 : decode cX0_take 13 = .ok (.iload_n 3, 1) := by decide +kernel
theorem dX0_take_14 : decode cX0_take 14 = .ok (.iload 4, 2) := by decide +kernel
theorem dX0_take_16 : decode cX0_take 16 = .ok (.iadd, 1) := by decide +kernel
theorem dX0_take_17 : decode cX0_take 17 = .ok (.iaload, 1) := by decide +kernel
theorem dX0_take_18 : decode cX0_take 18 = .ok (.iconst (-1), 1) := by decide +kernel
theorem dX0_take_19 : decode cX0_take 19 = .ok (.if_icmp .ne 26, 3) := by decide +kernel
theorem dX0_take_22 : decode cX0_take 22 = .ok (.aload_n 0, 1) := by decide +kernel
theorem dX0_take_23 : decode cX0_take 23 = .ok (.getfield 9, 3) := by decide +kernel
theorem dX0_take_26 : decode cX0_take 26 = .ok (.iload_n 3, 1) := by decide +kernel
theorem dX0_take_27 : decode cX0_take 27 = .ok (.iload 4, 2) := by decide +kernel
theorem dX0_take_29 : decode cX0_take 29 = .ok (.iadd, 1) := by decide +kernel
theorem dX0_take_30 : decode cX0_take 30 = .ok (.aload_n 1, 1) := by decide +kernel
theorem dX0_take_31 : decode cX0_take 31 = .ok (.iload 4, 2) := by decide +kernel
theorem dX0_take_33 : decode cX0_take 33 = .ok (.iaload, 1) := by decide +kernel
theorem dX0_take_34 : decode cX0_take 34 = .ok (.iastore, 1) := by decide +kernel
theorem dX0_take_35 : decode cX0_take 35 = .ok (.aload_n 0, 1) := by decide +kernel
theorem dX0_take_36 : decode cX0_take 36 = .ok (.dup, 1) := by decide +kernel
theorem dX0_take_37 : decode cX0_take 37 = .ok (.getfield 28, 3) := by decide +kernel
theorem dX0_take_40 : decode cX0_take 40 = .ok (.iconst 1, 1) := by decide +kernel
theorem dX0_take_41 : decode cX0_take 41 = .ok (.isub, 1) := by decide +kernel
theorem dX0_take_42 : decode cX0_take 42 = .ok (.putfield 28, 3) := by decide +kernel
theorem dX0_take_45 : decode cX0_take 45 = .ok (.iinc 4 1, 3) := by decide +kernel
theorem dX0_take_48 : decode cX0_take 48 = .ok (.goto (-45), 3) := by decide +kernel
theorem dX0_take_51 : decode cX0_take 51 = .ok (.return_, 1) := by decide +kernel
theorem dX0_holds_0 : decode cX0_holds 0 = .ok (.iload_n 1, 1) := by decide +kernel
theorem dX0_holds_1 : decode cX0_holds 1 = .ok (.ifCond .lt 25, 3) := by decide +kernel
theorem dX0_holds_4 : decode cX0_holds 4 = .ok (.iload_n 1, 1) := by decide +kernel
theorem dX0_holds_5 : decode cX0_holds 5 = .ok (.aload_n 0, 1) := by decide +kernel
theorem dX0_holds_6 : decode cX0_holds 6 = .ok (.getfield 25, 3) := by decide +kernel
theorem dX0_holds_9 : decode cX0_holds 9 = .ok (.if_icmp .ge 17, 3) := by decide +kernel
theorem dX0_holds_12 : decode cX0_holds 12 = .ok (.aload_n 0, 1) := by decide +kernel
theorem dX0_holds_13 : decode cX0_holds 13 = .ok (.getfield 9, 3) := by decide +kernel
theorem dX0_holds_16 : decode cX0_holds 16 = .ok (.iload_n 1, 1) := by decide +kernel
theorem dX0_holds_17 : decode cX0_holds 17 = .ok (.iaload, 1) := by decide +kernel
theorem dX0_holds_18 : decode cX0_holds 18 = .ok (.iconst (-1), 1) := by decide +kernel
theorem dX0_holds_19 : decode cX0_holds 19 = .ok (.if_icmp .eq 7, 3) := by decide +kernel
theorem dX0_holds_22 : decode cX0_holds 22 = .ok (.iconst 1, 1) := by decide +kernel
theorem dX0_holds_23 : decode cX0_holds 23 = .ok (.goto 4, 3) := by decide +kernel
theorem dX0_holds_26 : decode cX0_holds 26 = .ok (.iconst 0, 1) := by decide +kernel
theorem dX0_holds_27 : decode cX0_holds 27 = .ok (.ireturn, 1) := by decide +kernel
theorem dF_0 : decode cF 0 = .ok (.iconst 0, 1) := by decide +kernel
theorem dF_1 : decode cF 1 = .ok (.istore_n 2, 1) := by decide +kernel
theorem dF_2 : decode cF 2 = .ok (.aload_n 0, 1) := by decide +kernel
theorem dF_3 : decode cF 3 = .ok (.arraylength, 1) := by decide +kernel
theorem dF_4 : decode cF 4 = .ok (.istore_n 3, 1) := by decide +kernel
theorem dF_5 : decode cF 5 = .ok (.iload_n 2, 1) := by decide +kernel
theorem dF_6 : decode cF 6 = .ok (.iload_n 3, 1) := by decide +kernel
theorem dF_7 : decode cF 7 = .ok (.if_icmp .ge 13, 3) := by decide +kernel
theorem dF_10 : decode cF 10 = .ok (.aload_n 0, 1) := by decide +kernel
theorem dF_11 : decode cF 11 = .ok (.iload_n 2, 1) := by decide +kernel
theorem dF_12 : decode cF 12 = .ok (.iload_n 1, 1) := by decide +kernel
theorem dF_13 : decode cF 13 = .ok (.iastore, 1) := by decide +kernel
theorem dF_14 : decode cF 14 = .ok (.iinc 2 1, 3) := by decide +kernel
theorem dF_17 : decode cF 17 = .ok (.goto (-12), 3) := by decide +kernel
theorem dF_20 : decode cF 20 = .ok (.return_, 1) := by decide +kernel
