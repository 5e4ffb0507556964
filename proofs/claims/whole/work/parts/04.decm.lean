/-! what each instruction is -/
theorem dM_init_0 : decode cM_init 0 = .ok (.aload_n 0, 1) := by decide +kernel
theorem dM_init_1 : decode cM_init 1 = .ok (.invokespecial 1, 3) := by decide +kernel
theorem dM_init_4 : decode cM_init 4 = .ok (.aload_n 0, 1) := by decide +kernel
theorem dM_init_5 : decode cM_init 5 = .ok (.sipush 1480, 3) := by decide +kernel
theorem dM_init_8 : decode cM_init 8 = .ok (.newarray .int, 2) := by decide +kernel
theorem dM_init_10 : decode cM_init 10 = .ok (.putfield 7, 3) := by decide +kernel
theorem dM_init_13 : decode cM_init 13 = .ok (.aload_n 0, 1) := by decide +kernel
theorem dM_init_14 : decode cM_init 14 = .ok (.iconst 5, 1) := by decide +kernel
theorem dM_init_15 : decode cM_init 15 = .ok (.newarray .int, 2) := by decide +kernel
theorem dM_init_17 : decode cM_init 17 = .ok (.putfield 13, 3) := by decide +kernel
theorem dM_init_20 : decode cM_init 20 = .ok (.aload_n 0, 1) := by decide +kernel
theorem dM_init_21 : decode cM_init 21 = .ok (.iconst 5, 1) := by decide +kernel
theorem dM_init_22 : decode cM_init 22 = .ok (.newarray .int, 2) := by decide +kernel
theorem dM_init_24 : decode cM_init 24 = .ok (.putfield 16, 3) := by decide +kernel
theorem dM_init_27 : decode cM_init 27 = .ok (.aload_n 0, 1) := by decide +kernel
theorem dM_init_28 : decode cM_init 28 = .ok (.iconst 5, 1) := by decide +kernel
theorem dM_init_29 : decode cM_init 29 = .ok (.newarray .int, 2) := by decide +kernel
theorem dM_init_31 : decode cM_init 31 = .ok (.putfield 19, 3) := by decide +kernel
theorem dM_init_34 : decode cM_init 34 = .ok (.aload_n 0, 1) := by decide +kernel
theorem dM_init_35 : decode cM_init 35 = .ok (.iconst 5, 1) := by decide +kernel
theorem dM_init_36 : decode cM_init 36 = .ok (.newarray .int, 2) := by decide +kernel
theorem dM_init_38 : decode cM_init 38 = .ok (.putfield 22, 3) := by decide +kernel
theorem dM_init_41 : decode cM_init 41 = .ok (.aload_n 0, 1) := by decide +kernel
theorem dM_init_42 : decode cM_init 42 = .ok (.iconst 5, 1) := by decide +kernel
theorem dM_init_43 : decode cM_init 43 = .ok (.newarray .int, 2) := by decide +kernel
theorem dM_init_45 : decode cM_init 45 = .ok (.putfield 25, 3) := by decide +kernel
theorem dM_init_48 : decode cM_init 48 = .ok (.aload_n 0, 1) := by decide +kernel
theorem dM_init_49 : decode cM_init 49 = .ok (.sipush 7400, 3) := by decide +kernel
theorem dM_init_52 : decode cM_init 52 = .ok (.newarray .int, 2) := by decide +kernel
theorem dM_init_54 : decode cM_init 54 = .ok (.putfield 28, 3) := by decide +kernel
theorem dM_init_57 : decode cM_init 57 = .ok (.aload_n 0, 1) := by decide +kernel
theorem dM_init_58 : decode cM_init 58 = .ok (.sipush 1480, 3) := by decide +kernel
theorem dM_init_61 : decode cM_init 61 = .ok (.newarray .int, 2) := by decide +kernel
theorem dM_init_63 : decode cM_init 63 = .ok (.putfield 31, 3) := by decide +kernel
theorem dM_init_66 : decode cM_init 66 = .ok (.return_, 1) := by decide +kernel
theorem dM_thrown_0 : decode cM_thrown 0 = .ok (.aload_n 0, 1) := by decide +kernel
theorem dM_thrown_1 : decode cM_thrown 1 = .ok (.getfield 34, 3) := by decide +kernel
theorem dM_thrown_4 : decode cM_thrown 4 = .ok (.ireturn, 1) := by decide +kernel
theorem dM_feed_0 : decode cM_feed 0 = .ok (.aload_n 0, 1) := by decide +kernel
theorem dM_feed_1 : decode cM_feed 1 = .ok (.iload_n 3, 1) := by decide +kernel
theorem dM_feed_2 : decode cM_feed 2 = .ok (.iconst 1, 1) := by decide +kernel
theorem dM_feed_3 : decode cM_feed 3 = .ok (.if_icmp .lt 9, 3) := by decide +kernel
theorem dM_feed_6 : decode cM_feed 6 = .ok (.iload_n 3, 1) := by decide +kernel
theorem dM_feed_7 : decode cM_feed 7 = .ok (.bipush 8, 2) := by decide +kernel
theorem dM_feed_9 : decode cM_feed 9 = .ok (.if_icmp .le 7, 3) := by decide +kernel
theorem dM_feed_12 : decode cM_feed 12 = .ok (.iconst 1, 1) := by decide +kernel
theorem dM_feed_13 : decode cM_feed 13 = .ok (.goto 20, 3) := by decide +kernel
theorem dM_feed_16 : decode cM_feed 16 = .ok (.aload_n 0, 1) := by decide +kernel
theorem dM_feed_17 : decode cM_feed 17 = .ok (.getfield 38, 3) := by decide +kernel
theorem dM_feed_20 : decode cM_feed 20 = .ok (.iload_n 3, 1) := by decide +kernel
theorem dM_feed_21 : decode cM_feed 21 = .ok (.iadd, 1) := by decide +kernel
theorem dM_feed_22 : decode cM_feed 22 = .ok (.sipush 1480, 3) := by decide +kernel
theorem dM_feed_25 : decode cM_feed 25 = .ok (.if_icmp .le 7, 3) := by decide +kernel
theorem dM_feed_28 : decode cM_feed 28 = .ok (.iconst 2, 1) := by decide +kernel
theorem dM_feed_29 : decode cM_feed 29 = .ok (.goto 4, 3) := by decide +kernel
theorem dM_feed_32 : decode cM_feed 32 = .ok (.iconst 0, 1) := by decide +kernel
theorem dM_feed_33 : decode cM_feed 33 = .ok (.putfield 34, 3) := by decide +kernel
theorem dM_feed_36 : decode cM_feed 36 = .ok (.aload_n 0, 1) := by decide +kernel
theorem dM_feed_37 : decode cM_feed 37 = .ok (.getfield 34, 3) := by decide +kernel
theorem dM_feed_40 : decode cM_feed 40 = .ok (.ifCond .le 5, 3) := by decide +kernel
theorem dM_feed_43 : decode cM_feed 43 = .ok (.iconst 0, 1) := by decide +kernel
theorem dM_feed_44 : decode cM_feed 44 = .ok (.ireturn, 1) := by decide +kernel
theorem dM_feed_45 : decode cM_feed 45 = .ok (.iload_n 3, 1) := by decide +kernel
theorem dM_feed_46 : decode cM_feed 46 = .ok (.iconst 1, 1) := by decide +kernel
theorem dM_feed_47 : decode cM_feed 47 = .ok (.isub, 1) := by decide +kernel
theorem dM_feed_48 : decode cM_feed 48 = .ok (.istore 4, 2) := by decide +kernel
theorem dM_feed_50 : decode cM_feed 50 = .ok (.iload 4, 2) := by decide +kernel
theorem dM_feed_52 : decode cM_feed 52 = .ok (.ifCond .lt 40, 3) := by decide +kernel
theorem dM_feed_55 : decode cM_feed 55 = .ok (.aload_n 0, 1) := by decide +kernel
theorem dM_feed_56 : decode cM_feed 56 = .ok (.getfield 7, 3) := by decide +kernel
theorem dM_feed_59 : decode cM_feed 59 = .ok (.aload_n 0, 1) := by decide +kernel
theorem dM_feed_60 : decode cM_feed 60 = .ok (.getfield 38, 3) := by decide +kernel
theorem dM_feed_63 : decode cM_feed 63 = .ok (.lload_n 1, 1) := by decide +kernel
theorem dM_feed_64 : decode cM_feed 64 = .ok (.bipush 8, 2) := by decide +kernel
theorem dM_feed_66 : decode cM_feed 66 = .ok (.iload 4, 2) := by decide +kernel
theorem dM_feed_68 : decode cM_feed 68 = .ok (.imul, 1) := by decide +kernel
theorem dM_feed_69 : decode cM_feed 69 = .ok (.lshr, 1) := by decide +kernel
theorem dM_feed_70 : decode cM_feed 70 = .ok (.ldc2_w 41, 3) := by decide +kernel
theorem dM_feed_73 : decode cM_feed 73 = .ok (.land, 1) := by decide +kernel
theorem dM_feed_74 : decode cM_feed 74 = .ok (.l2i, 1) := by decide +kernel
theorem dM_feed_75 : decode cM_feed 75 = .ok (.iastore, 1) := by decide +kernel
theorem dM_feed_76 : decode cM_feed 76 = .ok (.aload_n 0, 1) := by decide +kernel
theorem dM_feed_77 : decode cM_feed 77 = .ok (.dup, 1) := by decide +kernel
theorem dM_feed_78 : decode cM_feed 78 = .ok (.getfield 38, 3) := by decide +kernel
theorem dM_feed_81 : decode cM_feed 81 = .ok (.iconst 1, 1) := by decide +kernel
theorem dM_feed_82 : decode cM_feed 82 = .ok (.iadd, 1) := by decide +kernel
theorem dM_feed_83 : decode cM_feed 83 = .ok (.putfield 38, 3) := by decide +kernel
theorem dM_feed_86 : decode cM_feed 86 = .ok (.iinc 4 (-1), 3) := by decide +kernel
theorem dM_feed_89 : decode cM_feed 89 = .ok (.goto (-39), 3) := by decide +kernel
theorem dM_feed_92 : decode cM_feed 92 = .ok (.aload_n 0, 1) := by decide +kernel
theorem dM_feed_93 : decode cM_feed 93 = .ok (.getfield 38, 3) := by decide +kernel
theorem dM_feed_96 : decode cM_feed 96 = .ok (.ireturn, 1) := by decide +kernel
theorem dM_find_0 : decode cM_find 0 = .ok (.iconst (-1), 1) := by decide +kernel
theorem dM_find_1 : decode cM_find 1 = .ok (.istore 4, 2) := by decide +kernel
theorem dM_find_3 : decode cM_find 3 = .ok (.iconst 0, 1) := by decide +kernel
theorem dM_find_4 : decode cM_find 4 = .ok (.istore 5, 2) := by decide +kernel
theorem dM_find_6 : decode cM_find 6 = .ok (.iload 5, 2) := by decide +kernel
theorem dM_find_8 : decode cM_find 8 = .ok (.aload_n 0, 1) := by decide +kernel
theorem dM_find_9 : decode cM_find 9 = .ok (.getfield 43, 3) := by decide +kernel
theorem dM_find_12 : decode cM_find 12 = .ok (.if_icmp .ge 51, 3) := by decide +kernel
theorem dM_find_15 : decode cM_find 15 = .ok (.aload_n 0, 1) := by decide +kernel
theorem dM_find_16 : decode cM_find 16 = .ok (.getfield 13, 3) := by decide +kernel
theorem dM_find_19 : decode cM_find 19 = .ok (.iload 5, 2) := by decide +kernel
theorem dM_find_21 : decode cM_find 21 = .ok (.iaload, 1) := by decide +kernel
theorem dM_find_22 : decode cM_find 22 = .ok (.iload_n 1, 1) := by decide +kernel
theorem dM_find_23 : decode cM_find 23 = .ok (.if_icmp .ne 30, 3) := by decide +kernel
theorem dM_find_26 : decode cM_find 26 = .ok (.aload_n 0, 1) := by decide +kernel
theorem dM_find_27 : decode cM_find 27 = .ok (.getfield 16, 3) := by decide +kernel
theorem dM_find_30 : decode cM_find 30 = .ok (.iload 5, 2) := by decide +kernel
theorem dM_find_32 : decode cM_find 32 = .ok (.iaload, 1) := by decide +kernel
theorem dM_find_33 : decode cM_find 33 = .ok (.iload_n 2, 1) := by decide +kernel
theorem dM_find_34 : decode cM_find 34 = .ok (.if_icmp .ne 19, 3) := by decide +kernel
theorem dM_find_37 : decode cM_find 37 = .ok (.aload_n 0, 1) := by decide +kernel
theorem dM_find_38 : decode cM_find 38 = .ok (.getfield 19, 3) := by decide +kernel
theorem dM_find_41 : decode cM_find 41 = .ok (.iload 5, 2) := by decide +kernel
theorem dM_find_43 : decode cM_find 43 = .ok (.iaload, 1) := by decide +kernel
theorem dM_find_44 : decode cM_find 44 = .ok (.iload_n 3, 1) := by decide +kernel
theorem dM_find_45 : decode cM_find 45 = .ok (.if_icmp .ne 8, 3) := by decide +kernel
theorem dM_find_48 : decode cM_find 48 = .ok (.iload 5, 2) := by decide +kernel
theorem dM_find_50 : decode cM_find 50 = .ok (.goto 5, 3) := by decide +kernel
theorem dM_find_53 : decode cM_find 53 = .ok (.iload 4, 2) := by decide +kernel
theorem dM_find_55 : decode cM_find 55 = .ok (.istore 4, 2) := by decide +kernel
theorem dM_find_57 : decode cM_find 57 = .ok (.iinc 5 1, 3) := by decide +kernel
theorem dM_find_60 : decode cM_find 60 = .ok (.goto (-54), 3) := by decide +kernel
theorem dM_find_63 : decode cM_find 63 = .ok (.iload 4, 2) := by decide +kernel
theorem dM_find_65 : decode cM_find 65 = .ok (.ireturn, 1) := by decide +kernel
theorem dM_forget_0 : decode cM_forget 0 = .ok (.aload_n 0, 1) := by decide +kernel
theorem dM_forget_1 : decode cM_forget 1 = .ok (.dup, 1) := by decide +kernel
theorem dM_forget_2 : decode cM_forget 2 = .ok (.getfield 43, 3) := by decide +kernel
theorem dM_forget_5 : decode cM_forget 5 = .ok (.iconst 1, 1) := by decide +kernel
theorem dM_forget_6 : decode cM_forget 6 = .ok (.isub, 1) := by decide +kernel
theorem dM_forget_7 : decode cM_forget 7 = .ok (.putfield 43, 3) := by decide +kernel
theorem dM_forget_10 : decode cM_forget 10 = .ok (.iload_n 1, 1) := by decide +kernel
theorem dM_forget_11 : decode cM_forget 11 = .ok (.istore_n 2, 1) := by decide +kernel
theorem dM_forget_12 : decode cM_forget 12 = .ok (.iload_n 2, 1) := by decide +kernel
theorem dM_forget_13 : decode cM_forget 13 = .ok (.aload_n 0, 1) := by decide +kernel
theorem dM_forget_14 : decode cM_forget 14 = .ok (.getfield 43, 3) := by decide +kernel
theorem dM_forget_17 : decode cM_forget 17 = .ok (.if_icmp .ge 122, 3) := by decide +kernel
theorem dM_forget_20 : decode cM_forget 20 = .ok (.aload_n 0, 1) := by decide +kernel
theorem dM_forget_21 : decode cM_forget 21 = .ok (.getfield 13, 3) := by decide +kernel
theorem dM_forget_24 : decode cM_forget 24 = .ok (.iload_n 2, 1) := by decide +kernel
theorem dM_forget_25 : decode cM_forget 25 = .ok (.aload_n 0, 1) := by decide +kernel
theorem dM_forget_26 : decode cM_forget 26 = .ok (.getfield 13, 3) := by decide +kernel
theorem dM_forget_29 : decode cM_forget 29 = .ok (.iload_n 2, 1) := by decide +kernel
theorem dM_forget_30 : decode cM_forget 30 = .ok (.iconst 1, 1) := by decide +kernel
theorem dM_forget_31 : decode cM_forget 31 = .ok (.iadd, 1) := by decide +kernel
theorem dM_forget_32 : decode cM_forget 32 = .ok (.iaload, 1) := by decide +kernel
theorem dM_forget_33 : decode cM_forget 33 = .ok (.iastore, 1) := by decide +kernel
theorem dM_forget_34 : decode cM_forget 34 = .ok (.aload_n 0, 1) := by decide +kernel
theorem dM_forget_35 : decode cM_forget 35 = .ok (.getfield 16, 3) := by decide +kernel
theorem dM_forget_38 : decode cM_forget 38 = .ok (.iload_n 2, 1) := by decide +kernel
theorem dM_forget_39 : decode cM_forget 39 = .ok (.aload_n 0, 1) := by decide +kernel
theorem dM_forget_40 : decode cM_forget 40 = .ok (.getfield 16, 3) := by decide +kernel
theorem dM_forget_43 : decode cM_forget 43 = .ok (.iload_n 2, 1) := by decide +kernel
theorem dM_forget_44 : decode cM_forget 44 = .ok (.iconst 1, 1) := by decide +kernel
theorem dM_forget_45 : decode cM_forget 45 = .ok (.iadd, 1) := by decide +kernel
theorem dM_forget_46 : decode cM_forget 46 = .ok (.iaload, 1) := by decide +kernel
theorem dM_forget_47 : decode cM_forget 47 = .ok (.iastore, 1) := by decide +kernel
theorem dM_forget_48 : decode cM_forget 48 = .ok (.aload_n 0, 1) := by decide +kernel
theorem dM_forget_49 : decode cM_forget 49 = .ok (.getfield 19, 3) := by decide +kernel
theorem dM_forget_52 : decode cM_forget 52 = .ok (.iload_n 2, 1) := by decide +kernel
theorem dM_forget_53 : decode cM_forget 53 = .ok (.aload_n 0, 1) := by decide +kernel
theorem dM_forget_54 : decode cM_forget 54 = .ok (.getfield 19, 3) := by decide +kernel
theorem dM_forget_57 : decode cM_forget 57 = .ok (.iload_n 2, 1) := by decide +kernel
theorem dM_forget_58 : decode cM_forget 58 = .ok (.iconst 1, 1) := by decide +kernel
theorem dM_forget_59 : decode cM_forget 59 = .ok (.iadd, 1) := by decide +kernel
theorem dM_forget_60 : decode cM_forget 60 = .ok (.iaload, 1) := by decide +kernel
theorem dM_forget_61 : decode cM_forget 61 = .ok (.iastore, 1) := by decide +kernel
theorem dM_forget_62 : decode cM_forget 62 = .ok (.aload_n 0, 1) := by decide +kernel
theorem dM_forget_63 : decode cM_forget 63 = .ok (.getfield 22, 3) := by decide +kernel
theorem dM_forget_66 : decode cM_forget 66 = .ok (.iload_n 2, 1) := by decide +kernel
theorem dM_forget_67 : decode cM_forget 67 = .ok (.aload_n 0, 1) := by decide +kernel
theorem dM_forget_68 : decode cM_forget 68 = .ok (.getfield 22, 3) := by decide +kernel
theorem dM_forget_71 : decode cM_forget 71 = .ok (.iload_n 2, 1) := by decide +kernel
theorem dM_forget_72 : decode cM_forget 72 = .ok (.iconst 1, 1) := by decide +kernel
theorem dM_forget_73 : decode cM_forget 73 = .ok (.iadd, 1) := by decide +kernel
theorem dM_forget_74 : decode cM_forget 74 = .ok (.iaload, 1) := by decide +kernel
theorem dM_forget_75 : decode cM_forget 75 = .ok (.iastore, 1) := by decide +kernel
theorem dM_forget_76 : decode cM_forget 76 = .ok (.aload_n 0, 1) := by decide +kernel
theorem dM_forget_77 : decode cM_forget 77 = .ok (.getfield 25, 3) := by decide +kernel
theorem dM_forget_80 : decode cM_forget 80 = .ok (.iload_n 2, 1) := by decide +kernel
theorem dM_forget_81 : decode cM_forget 81 = .ok (.aload_n 0, 1) := by decide +kernel
theorem dM_forget_82 : decode cM_forget 82 = .ok (.getfield 25, 3) := by decide +kernel
theorem dM_forget_85 : decode cM_forget 85 = .ok (.iload_n 2, 1) := by decide +kernel
theorem dM_forget_86 : decode cM_forget 86 = .ok (.iconst 1, 1) := by decide +kernel
theorem dM_forget_87 : decode cM_forget 87 = .ok (.iadd, 1) := by decide +kernel
theorem dM_forget_88 : decode cM_forget 88 = .ok (.iaload, 1) := by decide +kernel
theorem dM_forget_89 : decode cM_forget 89 = .ok (.iastore, 1) := by decide +kernel
theorem dM_forget_90 : decode cM_forget 90 = .ok (.iconst 0, 1) := by decide +kernel
theorem dM_forget_91 : decode cM_forget 91 = .ok (.istore_n 3, 1) := by decide +kernel
theorem dM_forget_92 : decode cM_forget 92 = .ok (.iload_n 3, 1) := by decide +kernel
theorem dM_forget_93 : decode cM_forget 93 = .ok (.sipush 1480, 3) := by decide +kernel
theorem dM_forget_96 : decode cM_forget 96 = .ok (.if_icmp .ge 37, 3) := by decide +kernel
theorem dM_forget_99 : decode cM_forget 99 = .ok (.aload_n 0, 1) := by decide +kernel
theorem dM_forget_100 : decode cM_forget 100 = .ok (.getfield 28, 3) := by decide +kernel
theorem dM_forget_103 : decode cM_forget 103 = .ok (.sipush 1480, 3) := by decide +kernel
theorem dM_forget_106 : decode cM_forget 106 = .ok (.iload_n 2, 1) := by decide +kernel
theorem dM_forget_107 : decode cM_forget 107 = .ok (.imul, 1) := by decide +kernel
theorem dM_forget_108 : decode cM_forget 108 = .ok (.iload_n 3, 1) := by decide +kernel
theorem dM_forget_109 : decode cM_forget 109 = .ok (.iadd, 1) := by decide +kernel
theorem dM_forget_110 : decode cM_forget 110 = .ok (.aload_n 0, 1) := by decide +kernel
theorem dM_forget_111 : decode cM_forget 111 = .ok (.getfield 28, 3) := by decide +kernel
theorem dM_forget_114 : decode cM_forget 114 = .ok (.sipush 1480, 3) := by decide +kernel
theorem dM_forget_117 : decode cM_forget 117 = .ok (.iload_n 2, 1) := by decide +kernel
theorem dM_forget_118 : decode cM_forget 118 = .ok (.imul, 1) := by decide +kernel
theorem dM_forget_119 : decode cM_forget 119 = .ok (.sipush 1480, 3) := by decide +kernel
theorem dM_forget_122 : decode cM_forget 122 = .ok (.iadd, 1) := by decide +kernel
theorem dM_forget_123 : decode cM_forget 123 = .ok (.iload_n 3, 1) := by decide +kernel
theorem dM_forget_124 : decode cM_forget 124 = .ok (.iadd, 1) := by decide +kernel
theorem dM_forget_125 : decode cM_forget 125 = .ok (.iaload, 1) := by decide +kernel
theorem dM_forget_126 : decode cM_forget 126 = .ok (.iastore, 1) := by decide +kernel
theorem dM_forget_127 : decode cM_forget 127 = .ok (.iinc 3 1, 3) := by decide +kernel
theorem dM_forget_130 : decode cM_forget 130 = .ok (.goto (-38), 3) := by decide +kernel
theorem dM_forget_133 : decode cM_forget 133 = .ok (.iinc 2 1, 3) := by decide +kernel
theorem dM_forget_136 : decode cM_forget 136 = .ok (.goto (-124), 3) := by decide +kernel
theorem dM_forget_139 : decode cM_forget 139 = .ok (.return_, 1) := by decide +kernel
theorem dM_lacks_0 : decode cM_lacks 0 = .ok (.iconst 0, 1) := by decide +kernel
theorem dM_lacks_1 : decode cM_lacks 1 = .ok (.istore_n 2, 1) := by decide +kernel
theorem dM_lacks_2 : decode cM_lacks 2 = .ok (.iconst 0, 1) := by decide +kernel
theorem dM_lacks_3 : decode cM_lacks 3 = .ok (.istore_n 3, 1) := by decide +kernel
theorem dM_lacks_4 : decode cM_lacks 4 = .ok (.iload_n 3, 1) := by decide +kernel
theorem dM_lacks_5 : decode cM_lacks 5 = .ok (.aload_n 0, 1) := by decide +kernel
theorem dM_lacks_6 : decode cM_lacks 6 = .ok (.getfield 25, 3) := by decide +kernel
theorem dM_lacks_9 : decode cM_lacks 9 = .ok (.iload_n 1, 1) := by decide +kernel
theorem dM_lacks_10 : decode cM_lacks 10 = .ok (.iaload, 1) := by decide +kernel
theorem dM_lacks_11 : decode cM_lacks 11 = .ok (.if_icmp .ge 32, 3) := by decide +kernel
theorem dM_lacks_14 : decode cM_lacks 14 = .ok (.iload_n 2, 1) := by decide +kernel
theorem dM_lacks_15 : decode cM_lacks 15 = .ok (.aload_n 0, 1) := by decide +kernel
theorem dM_lacks_16 : decode cM_lacks 16 = .ok (.getfield 28, 3) := by decide +kernel
theorem dM_lacks_19 : decode cM_lacks 19 = .ok (.sipush 1480, 3) := by decide +kernel
theorem dM_lacks_22 : decode cM_lacks 22 = .ok (.iload_n 1, 1) := by decide +kernel
theorem dM_lacks_23 : decode cM_lacks 23 = .ok (.imul, 1) := by decide +kernel
theorem dM_lacks_24 : decode cM_lacks 24 = .ok (.iload_n 3, 1) := by decide +kernel
theorem dM_lacks_25 : decode cM_lacks 25 = .ok (.iadd, 1) := by decide +kernel
theorem dM_lacks_26 : decode cM_lacks 26 = .ok (.iaload, 1) := by decide +kernel
theorem dM_lacks_27 : decode cM_lacks 27 = .ok (.ifCond .ge 7, 3) := by decide +kernel
theorem dM_lacks_30 : decode cM_lacks 30 = .ok (.iconst 1, 1) := by decide +kernel
theorem dM_lacks_31 : decode cM_lacks 31 = .ok (.goto 4, 3) := by decide +kernel
theorem dM_lacks_34 : decode cM_lacks 34 = .ok (.iconst 0, 1) := by decide +kernel
theorem dM_lacks_35 : decode cM_lacks 35 = .ok (.iadd, 1) := by decide +kernel
theorem dM_lacks_36 : decode cM_lacks 36 = .ok (.istore_n 2, 1) := by decide +kernel
theorem dM_lacks_37 : decode cM_lacks 37 = .ok (.iinc 3 1, 3) := by decide +kernel
theorem dM_lacks_40 : decode cM_lacks 40 = .ok (.goto (-36), 3) := by decide +kernel
theorem dM_lacks_43 : decode cM_lacks 43 = .ok (.iload_n 2, 1) := by decide +kernel
theorem dM_lacks_44 : decode cM_lacks 44 = .ok (.ireturn, 1) := by decide +kernel
theorem dM_begin_0 : decode cM_begin 0 = .ok (.aload_n 0, 1) := by decide +kernel
theorem dM_begin_1 : decode cM_begin 1 = .ok (.getfield 43, 3) := by decide +kernel
theorem dM_begin_4 : decode cM_begin 4 = .ok (.iconst 4, 1) := by decide +kernel
theorem dM_begin_5 : decode cM_begin 5 = .ok (.if_icmp .ne 8, 3) := by decide +kernel
theorem dM_begin_8 : decode cM_begin 8 = .ok (.aload_n 0, 1) := by decide +kernel
theorem dM_begin_9 : decode cM_begin 9 = .ok (.iconst 0, 1) := by decide +kernel
theorem dM_begin_10 : decode cM_begin 10 = .ok (.invokevirtual 46, 3) := by decide +kernel
theorem dM_begin_13 : decode cM_begin 13 = .ok (.aload_n 0, 1) := by decide +kernel
theorem dM_begin_14 : decode cM_begin 14 = .ok (.getfield 13, 3) := by decide +kernel
theorem dM_begin_17 : decode cM_begin 17 = .ok (.aload_n 0, 1) := by decide +kernel
theorem dM_begin_18 : decode cM_begin 18 = .ok (.getfield 43, 3) := by decide +kernel
theorem dM_begin_21 : decode cM_begin 21 = .ok (.iload_n 1, 1) := by decide +kernel
theorem dM_begin_22 : decode cM_begin 22 = .ok (.iastore, 1) := by decide +kernel
theorem dM_begin_23 : decode cM_begin 23 = .ok (.aload_n 0, 1) := by decide +kernel
theorem dM_begin_24 : decode cM_begin 24 = .ok (.getfield 16, 3) := by decide +kernel
theorem dM_begin_27 : decode cM_begin 27 = .ok (.aload_n 0, 1) := by decide +kernel
theorem dM_begin_28 : decode cM_begin 28 = .ok (.getfield 43, 3) := by decide +kernel
theorem dM_begin_31 : decode cM_begin 31 = .ok (.iload_n 2, 1) := by decide +kernel
theorem dM_begin_32 : decode cM_begin 32 = .ok (.iastore, 1) := by decide +kernel
theorem dM_begin_33 : decode cM_begin 33 = .ok (.aload_n 0, 1) := by decide +kernel
theorem dM_begin_34 : decode cM_begin 34 = .ok (.getfield 19, 3) := by decide +kernel
theorem dM_begin_37 : decode cM_begin 37 = .ok (.aload_n 0, 1) := by decide +kernel
theorem dM_begin_38 : decode cM_begin 38 = .ok (.getfield 43, 3) := by decide +kernel
theorem dM_begin_41 : decode cM_begin 41 = .ok (.iload_n 3, 1) := by decide +kernel
theorem dM_begin_42 : decode cM_begin 42 = .ok (.iastore, 1) := by decide +kernel
theorem dM_begin_43 : decode cM_begin 43 = .ok (.aload_n 0, 1) := by decide +kernel
theorem dM_begin_44 : decode cM_begin 44 = .ok (.getfield 22, 3) := by decide +kernel
theorem dM_begin_47 : decode cM_begin 47 = .ok (.aload_n 0, 1) := by decide +kernel
theorem dM_begin_48 : decode cM_begin 48 = .ok (.getfield 43, 3) := by decide +kernel
theorem dM_begin_51 : decode cM_begin 51 = .ok (.aload_n 0, 1) := by decide +kernel
theorem dM_begin_52 : decode cM_begin 52 = .ok (.getfield 50, 3) := by decide +kernel
theorem dM_begin_55 : decode cM_begin 55 = .ok (.iastore, 1) := by decide +kernel
theorem dM_begin_56 : decode cM_begin 56 = .ok (.aload_n 0, 1) := by decide +kernel
theorem dM_begin_57 : decode cM_begin 57 = .ok (.getfield 25, 3) := by decide +kernel
theorem dM_begin_60 : decode cM_begin 60 = .ok (.aload_n 0, 1) := by decide +kernel
theorem dM_begin_61 : decode cM_begin 61 = .ok (.getfield 43, 3) := by decide +kernel
theorem dM_begin_64 : decode cM_begin 64 = .ok (.iload 4, 2) := by decide +kernel
theorem dM_begin_66 : decode cM_begin 66 = .ok (.iastore, 1) := by decide +kernel
theorem dM_begin_67 : decode cM_begin 67 = .ok (.iconst 0, 1) := by decide +kernel
theorem dM_begin_68 : decode cM_begin 68 = .ok (.istore 5, 2) := by decide +kernel
theorem dM_begin_70 : decode cM_begin 70 = .ok (.iload 5, 2) := by decide +kernel
theorem dM_begin_72 : decode cM_begin 72 = .ok (.sipush 1480, 3) := by decide +kernel
theorem dM_begin_75 : decode cM_begin 75 = .ok (.if_icmp .ge 26, 3) := by decide +kernel
theorem dM_begin_78 : decode cM_begin 78 = .ok (.aload_n 0, 1) := by decide +kernel
theorem dM_begin_79 : decode cM_begin 79 = .ok (.getfield 28, 3) := by decide +kernel
theorem dM_begin_82 : decode cM_begin 82 = .ok (.sipush 1480, 3) := by decide +kernel
theorem dM_begin_85 : decode cM_begin 85 = .ok (.aload_n 0, 1) := by decide +kernel
theorem dM_begin_86 : decode cM_begin 86 = .ok (.getfield 43, 3) := by decide +kernel
theorem dM_begin_89 : decode cM_begin 89 = .ok (.imul, 1) := by decide +kernel
theorem dM_begin_90 : decode cM_begin 90 = .ok (.iload 5, 2) := by decide +kernel
theorem dM_begin_92 : decode cM_begin 92 = .ok (.iadd, 1) := by decide +kernel
theorem dM_begin_93 : decode cM_begin 93 = .ok (.iconst (-1), 1) := by decide +kernel
theorem dM_begin_94 : decode cM_begin 94 = .ok (.iastore, 1) := by decide +kernel
theorem dM_begin_95 : decode cM_begin 95 = .ok (.iinc 5 1, 3) := by decide +kernel
theorem dM_begin_98 : decode cM_begin 98 = .ok (.goto (-28), 3) := by decide +kernel
theorem dM_begin_101 : decode cM_begin 101 = .ok (.aload_n 0, 1) := by decide +kernel
theorem dM_begin_102 : decode cM_begin 102 = .ok (.dup, 1) := by decide +kernel
theorem dM_begin_103 : decode cM_begin 103 = .ok (.getfield 43, 3) := by decide +kernel
theorem dM_begin_106 : decode cM_begin 106 = .ok (.iconst 1, 1) := by decide +kernel
theorem dM_begin_107 : decode cM_begin 107 = .ok (.iadd, 1) := by decide +kernel
theorem dM_begin_108 : decode cM_begin 108 = .ok (.putfield 43, 3) := by decide +kernel
theorem dM_begin_111 : decode cM_begin 111 = .ok (.return_, 1) := by decide +kernel
theorem dM_finish_0 : decode cM_finish 0 = .ok (.aload_n 0, 1) := by decide +kernel
theorem dM_finish_1 : decode cM_finish 1 = .ok (.iconst 1, 1) := by decide +kernel
theorem dM_finish_2 : decode cM_finish 2 = .ok (.putfield 53, 3) := by decide +kernel
theorem dM_finish_5 : decode cM_finish 5 = .ok (.aload_n 0, 1) := by decide +kernel
theorem dM_finish_6 : decode cM_finish 6 = .ok (.aload_n 0, 1) := by decide +kernel
theorem dM_finish_7 : decode cM_finish 7 = .ok (.getfield 13, 3) := by decide +kernel
theorem dM_finish_10 : decode cM_finish 10 = .ok (.iload_n 1, 1) := by decide +kernel
theorem dM_finish_11 : decode cM_finish 11 = .ok (.iaload, 1) := by decide +kernel
theorem dM_finish_12 : decode cM_finish 12 = .ok (.putfield 57, 3) := by decide +kernel
theorem dM_finish_15 : decode cM_finish 15 = .ok (.aload_n 0, 1) := by decide +kernel
theorem dM_finish_16 : decode cM_finish 16 = .ok (.aload_n 0, 1) := by decide +kernel
theorem dM_finish_17 : decode cM_finish 17 = .ok (.getfield 16, 3) := by decide +kernel
theorem dM_finish_20 : decode cM_finish 20 = .ok (.iload_n 1, 1) := by decide +kernel
theorem dM_finish_21 : decode cM_finish 21 = .ok (.iaload, 1) := by decide +kernel
theorem dM_finish_22 : decode cM_finish 22 = .ok (.putfield 60, 3) := by decide +kernel
theorem dM_finish_25 : decode cM_finish 25 = .ok (.aload_n 0, 1) := by decide +kernel
theorem dM_finish_26 : decode cM_finish 26 = .ok (.aload_n 0, 1) := by decide +kernel
theorem dM_finish_27 : decode cM_finish 27 = .ok (.getfield 19, 3) := by decide +kernel
theorem dM_finish_30 : decode cM_finish 30 = .ok (.iload_n 1, 1) := by decide +kernel
theorem dM_finish_31 : decode cM_finish 31 = .ok (.iaload, 1) := by decide +kernel
theorem dM_finish_32 : decode cM_finish 32 = .ok (.putfield 63, 3) := by decide +kernel
theorem dM_finish_35 : decode cM_finish 35 = .ok (.aload_n 0, 1) := by decide +kernel
theorem dM_finish_36 : decode cM_finish 36 = .ok (.aload_n 0, 1) := by decide +kernel
theorem dM_finish_37 : decode cM_finish 37 = .ok (.getfield 25, 3) := by decide +kernel
theorem dM_finish_40 : decode cM_finish 40 = .ok (.iload_n 1, 1) := by decide +kernel
theorem dM_finish_41 : decode cM_finish 41 = .ok (.iaload, 1) := by decide +kernel
theorem dM_finish_42 : decode cM_finish 42 = .ok (.putfield 66, 3) := by decide +kernel
theorem dM_finish_45 : decode cM_finish 45 = .ok (.iconst 0, 1) := by decide +kernel
theorem dM_finish_46 : decode cM_finish 46 = .ok (.istore_n 2, 1) := by decide +kernel
theorem dM_finish_47 : decode cM_finish 47 = .ok (.iload_n 2, 1) := by decide +kernel
theorem dM_finish_48 : decode cM_finish 48 = .ok (.aload_n 0, 1) := by decide +kernel
theorem dM_finish_49 : decode cM_finish 49 = .ok (.getfield 66, 3) := by decide +kernel
theorem dM_finish_52 : decode cM_finish 52 = .ok (.if_icmp .ge 27, 3) := by decide +kernel
theorem dM_finish_55 : decode cM_finish 55 = .ok (.aload_n 0, 1) := by decide +kernel
theorem dM_finish_56 : decode cM_finish 56 = .ok (.getfield 31, 3) := by decide +kernel
theorem dM_finish_59 : decode cM_finish 59 = .ok (.iload_n 2, 1) := by decide +kernel
theorem dM_finish_60 : decode cM_finish 60 = .ok (.aload_n 0, 1) := by decide +kernel
theorem dM_finish_61 : decode cM_finish 61 = .ok (.getfield 28, 3) := by decide +kernel
theorem dM_finish_64 : decode cM_finish 64 = .ok (.sipush 1480, 3) := by decide +kernel
theorem dM_finish_67 : decode cM_finish 67 = .ok (.iload_n 1, 1) := by decide +kernel
theorem dM_finish_68 : decode cM_finish 68 = .ok (.imul, 1) := by decide +kernel
theorem dM_finish_69 : decode cM_finish 69 = .ok (.iload_n 2, 1) := by decide +kernel
theorem dM_finish_70 : decode cM_finish 70 = .ok (.iadd, 1) := by decide +kernel
theorem dM_finish_71 : decode cM_finish 71 = .ok (.iaload, 1) := by decide +kernel
theorem dM_finish_72 : decode cM_finish 72 = .ok (.iastore, 1) := by decide +kernel
theorem dM_finish_73 : decode cM_finish 73 = .ok (.iinc 2 1, 3) := by decide +kernel
theorem dM_finish_76 : decode cM_finish 76 = .ok (.goto (-29), 3) := by decide +kernel
theorem dM_finish_79 : decode cM_finish 79 = .ok (.aload_n 0, 1) := by decide +kernel
theorem dM_finish_80 : decode cM_finish 80 = .ok (.iload_n 1, 1) := by decide +kernel
theorem dM_finish_81 : decode cM_finish 81 = .ok (.invokevirtual 46, 3) := by decide +kernel
theorem dM_finish_84 : decode cM_finish 84 = .ok (.return_, 1) := by decide +kernel
theorem dM_piece_0 : decode cM_piece 0 = .ok (.aload_n 0, 1) := by decide +kernel
theorem dM_piece_1 : decode cM_piece 1 = .ok (.iload 5, 2) := by decide +kernel
theorem dM_piece_3 : decode cM_piece 3 = .ok (.iconst 1, 1) := by decide +kernel
theorem dM_piece_4 : decode cM_piece 4 = .ok (.if_icmp .lt 16, 3) := by decide +kernel
theorem dM_piece_7 : decode cM_piece 7 = .ok (.iload 5, 2) := by decide +kernel
theorem dM_piece_9 : decode cM_piece 9 = .ok (.sipush 1480, 3) := by decide +kernel
theorem dM_piece_12 : decode cM_piece 12 = .ok (.if_icmp .gt 8, 3) := by decide +kernel
theorem dM_piece_15 : decode cM_piece 15 = .ok (.iload 4, 2) := by decide +kernel
theorem dM_piece_17 : decode cM_piece 17 = .ok (.ifCond .ge 7, 3) := by decide +kernel
theorem dM_piece_20 : decode cM_piece 20 = .ok (.iconst 1, 1) := by decide +kernel
theorem dM_piece_21 : decode cM_piece 21 = .ok (.goto 27, 3) := by decide +kernel
theorem dM_piece_24 : decode cM_piece 24 = .ok (.aload_n 0, 1) := by decide +kernel
theorem dM_piece_25 : decode cM_piece 25 = .ok (.getfield 38, 3) := by decide +kernel
theorem dM_piece_28 : decode cM_piece 28 = .ok (.ifCond .eq 15, 3) := by decide +kernel
theorem dM_piece_31 : decode cM_piece 31 = .ok (.iload 4, 2) := by decide +kernel
theorem dM_piece_33 : decode cM_piece 33 = .ok (.iload 5, 2) := by decide +kernel
theorem dM_piece_35 : decode cM_piece 35 = .ok (.aload_n 0, 1) := by decide +kernel
theorem dM_piece_36 : decode cM_piece 36 = .ok (.getfield 38, 3) := by decide +kernel
theorem dM_piece_39 : decode cM_piece 39 = .ok (.isub, 1) := by decide +kernel
theorem dM_piece_40 : decode cM_piece 40 = .ok (.if_icmp .le 7, 3) := by decide +kernel
theorem dM_piece_43 : decode cM_piece 43 = .ok (.iconst 2, 1) := by decide +kernel
theorem dM_piece_44 : decode cM_piece 44 = .ok (.goto 4, 3) := by decide +kernel
theorem dM_piece_47 : decode cM_piece 47 = .ok (.iconst 0, 1) := by decide +kernel
theorem dM_piece_48 : decode cM_piece 48 = .ok (.putfield 34, 3) := by decide +kernel
theorem dM_piece_51 : decode cM_piece 51 = .ok (.aload_n 0, 1) := by decide +kernel
theorem dM_piece_52 : decode cM_piece 52 = .ok (.getfield 34, 3) := by decide +kernel
theorem dM_piece_55 : decode cM_piece 55 = .ok (.ifCond .le 5, 3) := by decide +kernel
theorem dM_piece_58 : decode cM_piece 58 = .ok (.iconst 0, 1) := by decide +kernel
theorem dM_piece_59 : decode cM_piece 59 = .ok (.ireturn, 1) := by decide +kernel
theorem dM_piece_60 : decode cM_piece 60 = .ok (.aload_n 0, 1) := by decide +kernel
theorem dM_piece_61 : decode cM_piece 61 = .ok (.getfield 38, 3) := by decide +kernel
theorem dM_piece_64 : decode cM_piece 64 = .ok (.istore 6, 2) := by decide +kernel
theorem dM_piece_66 : decode cM_piece 66 = .ok (.aload_n 0, 1) := by decide +kernel
theorem dM_piece_67 : decode cM_piece 67 = .ok (.iconst 0, 1) := by decide +kernel
theorem dM_piece_68 : decode cM_piece 68 = .ok (.putfield 38, 3) := by decide +kernel
theorem dM_piece_71 : decode cM_piece 71 = .ok (.aload_n 0, 1) := by decide +kernel
theorem dM_piece_72 : decode cM_piece 72 = .ok (.iload_n 1, 1) := by decide +kernel
theorem dM_piece_73 : decode cM_piece 73 = .ok (.iload_n 2, 1) := by decide +kernel
theorem dM_piece_74 : decode cM_piece 74 = .ok (.iload_n 3, 1) := by decide +kernel
theorem dM_piece_75 : decode cM_piece 75 = .ok (.invokevirtual 69, 3) := by decide +kernel
theorem dM_piece_78 : decode cM_piece 78 = .ok (.istore 7, 2) := by decide +kernel
theorem dM_piece_80 : decode cM_piece 80 = .ok (.iload 7, 2) := by decide +kernel
theorem dM_piece_82 : decode cM_piece 82 = .ok (.ifCond .lt 17, 3) := by decide +kernel
theorem dM_piece_85 : decode cM_piece 85 = .ok (.aload_n 0, 1) := by decide +kernel
theorem dM_piece_86 : decode cM_piece 86 = .ok (.getfield 25, 3) := by decide +kernel
theorem dM_piece_89 : decode cM_piece 89 = .ok (.iload 7, 2) := by decide +kernel
theorem dM_piece_91 : decode cM_piece 91 = .ok (.iaload, 1) := by decide +kernel
theorem dM_piece_92 : decode cM_piece 92 = .ok (.iload 5, 2) := by decide +kernel
theorem dM_piece_94 : decode cM_piece 94 = .ok (.if_icmp .eq 5, 3) := by decide +kernel
theorem dM_piece_97 : decode cM_piece 97 = .ok (.iconst (-1), 1) := by decide +kernel
theorem dM_piece_98 : decode cM_piece 98 = .ok (.ireturn, 1) := by decide +kernel
theorem dM_piece_99 : decode cM_piece 99 = .ok (.iload 7, 2) := by decide +kernel
theorem dM_piece_101 : decode cM_piece 101 = .ok (.ifCond .ge 20, 3) := by decide +kernel
theorem dM_piece_104 : decode cM_piece 104 = .ok (.aload_n 0, 1) := by decide +kernel
theorem dM_piece_105 : decode cM_piece 105 = .ok (.iload_n 1, 1) := by decide +kernel
theorem dM_piece_106 : decode cM_piece 106 = .ok (.iload_n 2, 1) := by decide +kernel
theorem dM_piece_107 : decode cM_piece 107 = .ok (.iload_n 3, 1) := by decide +kernel
theorem dM_piece_108 : decode cM_piece 108 = .ok (.iload 5, 2) := by decide +kernel
theorem dM_piece_110 : decode cM_piece 110 = .ok (.invokevirtual 73, 3) := by decide +kernel
theorem dM_piece_113 : decode cM_piece 113 = .ok (.aload_n 0, 1) := by decide +kernel
theorem dM_piece_114 : decode cM_piece 114 = .ok (.getfield 43, 3) := by decide +kernel
theorem dM_piece_117 : decode cM_piece 117 = .ok (.iconst 1, 1) := by decide +kernel
theorem dM_piece_118 : decode cM_piece 118 = .ok (.isub, 1) := by decide +kernel
theorem dM_piece_119 : decode cM_piece 119 = .ok (.istore 7, 2) := by decide +kernel
theorem dM_piece_121 : decode cM_piece 121 = .ok (.iconst 0, 1) := by decide +kernel
theorem dM_piece_122 : decode cM_piece 122 = .ok (.istore 8, 2) := by decide +kernel
theorem dM_piece_124 : decode cM_piece 124 = .ok (.iload 8, 2) := by decide +kernel
theorem dM_piece_126 : decode cM_piece 126 = .ok (.iload 6, 2) := by decide +kernel
theorem dM_piece_128 : decode cM_piece 128 = .ok (.if_icmp .ge 57, 3) := by decide +kernel
theorem dM_piece_131 : decode cM_piece 131 = .ok (.sipush 1480, 3) := by decide +kernel
theorem dM_piece_134 : decode cM_piece 134 = .ok (.iload 7, 2) := by decide +kernel
theorem dM_piece_136 : decode cM_piece 136 = .ok (.imul, 1) := by decide +kernel
theorem dM_piece_137 : decode cM_piece 137 = .ok (.iload 4, 2) := by decide +kernel
theorem dM_piece_139 : decode cM_piece 139 = .ok (.iadd, 1) := by decide +kernel
theorem dM_piece_140 : decode cM_piece 140 = .ok (.iload 8, 2) := by decide +kernel
theorem dM_piece_142 : decode cM_piece 142 = .ok (.iadd, 1) := by decide +kernel
theorem dM_piece_143 : decode cM_piece 143 = .ok (.istore 9, 2) := by decide +kernel
theorem dM_piece_145 : decode cM_piece 145 = .ok (.aload_n 0, 1) := by decide +kernel
theorem dM_piece_146 : decode cM_piece 146 = .ok (.getfield 28, 3) := by decide +kernel
theorem dM_piece_149 : decode cM_piece 149 = .ok (.iload 9, 2) := by decide +kernel
theorem dM_piece_151 : decode cM_piece 151 = .ok (.aload_n 0, 1) := by decide +kernel
theorem dM_piece_152 : decode cM_piece 152 = .ok (.getfield 28, 3) := by decide +kernel
theorem dM_piece_155 : decode cM_piece 155 = .ok (.iload 9, 2) := by decide +kernel
theorem dM_piece_157 : decode cM_piece 157 = .ok (.iaload, 1) := by decide +kernel
theorem dM_piece_158 : decode cM_piece 158 = .ok (.ifCond .ge 13, 3) := by decide +kernel
theorem dM_piece_161 : decode cM_piece 161 = .ok (.aload_n 0, 1) := by decide +kernel
theorem dM_piece_162 : decode cM_piece 162 = .ok (.getfield 7, 3) := by decide +kernel
theorem dM_piece_165 : decode cM_piece 165 = .ok (.iload 8, 2) := by decide +kernel
theorem dM_piece_167 : decode cM_piece 167 = .ok (.iaload, 1) := by decide +kernel
theorem dM_piece_168 : decode cM_piece 168 = .ok (.goto 10, 3) := by decide +kernel
theorem dM_piece_171 : decode cM_piece 171 = .ok (.aload_n 0, 1) := by decide +kernel
theorem dM_piece_172 : decode cM_piece 172 = .ok (.getfield 28, 3) := by decide +kernel
theorem dM_piece_175 : decode cM_piece 175 = .ok (.iload 9, 2) := by decide +kernel
theorem dM_piece_177 : decode cM_piece 177 = .ok (.iaload, 1) := by decide +kernel
theorem dM_piece_178 : decode cM_piece 178 = .ok (.iastore, 1) := by decide +kernel
theorem dM_piece_179 : decode cM_piece 179 = .ok (.iinc 8 1, 3) := by decide +kernel
theorem dM_piece_182 : decode cM_piece 182 = .ok (.goto (-58), 3) := by decide +kernel
theorem dM_piece_185 : decode cM_piece 185 = .ok (.aload_n 0, 1) := by decide +kernel
theorem dM_piece_186 : decode cM_piece 186 = .ok (.iload 7, 2) := by decide +kernel
theorem dM_piece_188 : decode cM_piece 188 = .ok (.invokevirtual 77, 3) := by decide +kernel
theorem dM_piece_191 : decode cM_piece 191 = .ok (.ifCond .le 5, 3) := by decide +kernel
theorem dM_piece_194 : decode cM_piece 194 = .ok (.iconst 0, 1) := by decide +kernel
theorem dM_piece_195 : decode cM_piece 195 = .ok (.ireturn, 1) := by decide +kernel
theorem dM_piece_196 : decode cM_piece 196 = .ok (.aload_n 0, 1) := by decide +kernel
theorem dM_piece_197 : decode cM_piece 197 = .ok (.iload 7, 2) := by decide +kernel
theorem dM_piece_199 : decode cM_piece 199 = .ok (.invokevirtual 81, 3) := by decide +kernel
theorem dM_piece_202 : decode cM_piece 202 = .ok (.iconst 1, 1) := by decide +kernel
theorem dM_piece_203 : decode cM_piece 203 = .ok (.ireturn, 1) := by decide +kernel
theorem dM_pass_0 : decode cM_pass 0 = .ok (.aload_n 0, 1) := by decide +kernel
theorem dM_pass_1 : decode cM_pass 1 = .ok (.iload_n 1, 1) := by decide +kernel
theorem dM_pass_2 : decode cM_pass 2 = .ok (.ifCond .lt 9, 3) := by decide +kernel
theorem dM_pass_5 : decode cM_pass 5 = .ok (.iload_n 1, 1) := by decide +kernel
theorem dM_pass_6 : decode cM_pass 6 = .ok (.ldc 84, 2) := by decide +kernel
theorem dM_pass_8 : decode cM_pass 8 = .ok (.if_icmp .le 7, 3) := by decide +kernel
theorem dM_pass_11 : decode cM_pass 11 = .ok (.iconst 1, 1) := by decide +kernel
theorem dM_pass_12 : decode cM_pass 12 = .ok (.goto 19, 3) := by decide +kernel
theorem dM_pass_15 : decode cM_pass 15 = .ok (.aload_n 0, 1) := by decide +kernel
theorem dM_pass_16 : decode cM_pass 16 = .ok (.getfield 50, 3) := by decide +kernel
theorem dM_pass_19 : decode cM_pass 19 = .ok (.iload_n 1, 1) := by decide +kernel
theorem dM_pass_20 : decode cM_pass 20 = .ok (.iadd, 1) := by decide +kernel
theorem dM_pass_21 : decode cM_pass 21 = .ok (.ldc 85, 2) := by decide +kernel
theorem dM_pass_23 : decode cM_pass 23 = .ok (.if_icmp .le 7, 3) := by decide +kernel
theorem dM_pass_26 : decode cM_pass 26 = .ok (.iconst 2, 1) := by decide +kernel
theorem dM_pass_27 : decode cM_pass 27 = .ok (.goto 4, 3) := by decide +kernel
theorem dM_pass_30 : decode cM_pass 30 = .ok (.iconst 0, 1) := by decide +kernel
theorem dM_pass_31 : decode cM_pass 31 = .ok (.putfield 34, 3) := by decide +kernel
theorem dM_pass_34 : decode cM_pass 34 = .ok (.aload_n 0, 1) := by decide +kernel
theorem dM_pass_35 : decode cM_pass 35 = .ok (.getfield 34, 3) := by decide +kernel
theorem dM_pass_38 : decode cM_pass 38 = .ok (.ifCond .le 5, 3) := by decide +kernel
theorem dM_pass_41 : decode cM_pass 41 = .ok (.iconst 0, 1) := by decide +kernel
theorem dM_pass_42 : decode cM_pass 42 = .ok (.ireturn, 1) := by decide +kernel
theorem dM_pass_43 : decode cM_pass 43 = .ok (.aload_n 0, 1) := by decide +kernel
theorem dM_pass_44 : decode cM_pass 44 = .ok (.dup, 1) := by decide +kernel
theorem dM_pass_45 : decode cM_pass 45 = .ok (.getfield 50, 3) := by decide +kernel
theorem dM_pass_48 : decode cM_pass 48 = .ok (.iload_n 1, 1) := by decide +kernel
theorem dM_pass_49 : decode cM_pass 49 = .ok (.iadd, 1) := by decide +kernel
theorem dM_pass_50 : decode cM_pass 50 = .ok (.putfield 50, 3) := by decide +kernel
theorem dM_pass_53 : decode cM_pass 53 = .ok (.iconst 0, 1) := by decide +kernel
theorem dM_pass_54 : decode cM_pass 54 = .ok (.istore_n 2, 1) := by decide +kernel
theorem dM_pass_55 : decode cM_pass 55 = .ok (.aload_n 0, 1) := by decide +kernel
theorem dM_pass_56 : decode cM_pass 56 = .ok (.getfield 43, 3) := by decide +kernel
theorem dM_pass_59 : decode cM_pass 59 = .ok (.ifCond .le 31, 3) := by decide +kernel
theorem dM_pass_62 : decode cM_pass 62 = .ok (.aload_n 0, 1) := by decide +kernel
theorem dM_pass_63 : decode cM_pass 63 = .ok (.getfield 50, 3) := by decide +kernel
theorem dM_pass_66 : decode cM_pass 66 = .ok (.aload_n 0, 1) := by decide +kernel
theorem dM_pass_67 : decode cM_pass 67 = .ok (.getfield 22, 3) := by decide +kernel
theorem dM_pass_70 : decode cM_pass 70 = .ok (.iconst 0, 1) := by decide +kernel
theorem dM_pass_71 : decode cM_pass 71 = .ok (.iaload, 1) := by decide +kernel
theorem dM_pass_72 : decode cM_pass 72 = .ok (.isub, 1) := by decide +kernel
theorem dM_pass_73 : decode cM_pass 73 = .ok (.sipush 300, 3) := by decide +kernel
theorem dM_pass_76 : decode cM_pass 76 = .ok (.if_icmp .lt 14, 3) := by decide +kernel
theorem dM_pass_79 : decode cM_pass 79 = .ok (.aload_n 0, 1) := by decide +kernel
theorem dM_pass_80 : decode cM_pass 80 = .ok (.iconst 0, 1) := by decide +kernel
theorem dM_pass_81 : decode cM_pass 81 = .ok (.invokevirtual 46, 3) := by decide +kernel
theorem dM_pass_84 : decode cM_pass 84 = .ok (.iinc 2 1, 3) := by decide +kernel
theorem dM_pass_87 : decode cM_pass 87 = .ok (.goto (-32), 3) := by decide +kernel
theorem dM_pass_90 : decode cM_pass 90 = .ok (.iload_n 2, 1) := by decide +kernel
theorem dM_pass_91 : decode cM_pass 91 = .ok (.ireturn, 1) := by decide +kernel
theorem dM_about_0 : decode cM_about 0 = .ok (.aload_n 0, 1) := by decide +kernel
theorem dM_about_1 : decode cM_about 1 = .ok (.iload_n 1, 1) := by decide +kernel
theorem dM_about_2 : decode cM_about 2 = .ok (.ifCond .lt 8, 3) := by decide +kernel
theorem dM_about_5 : decode cM_about 5 = .ok (.iload_n 1, 1) := by decide +kernel
theorem dM_about_6 : decode cM_about 6 = .ok (.iconst 3, 1) := by decide +kernel
theorem dM_about_7 : decode cM_about 7 = .ok (.if_icmp .le 7, 3) := by decide +kernel
theorem dM_about_10 : decode cM_about 10 = .ok (.iconst 1, 1) := by decide +kernel
theorem dM_about_11 : decode cM_about 11 = .ok (.goto 15, 3) := by decide +kernel
theorem dM_about_14 : decode cM_about 14 = .ok (.aload_n 0, 1) := by decide +kernel
theorem dM_about_15 : decode cM_about 15 = .ok (.getfield 53, 3) := by decide +kernel
theorem dM_about_18 : decode cM_about 18 = .ok (.ifCond .ne 7, 3) := by decide +kernel
theorem dM_about_21 : decode cM_about 21 = .ok (.iconst 2, 1) := by decide +kernel
theorem dM_about_22 : decode cM_about 22 = .ok (.goto 4, 3) := by decide +kernel
theorem dM_about_25 : decode cM_about 25 = .ok (.iconst 0, 1) := by decide +kernel
theorem dM_about_26 : decode cM_about 26 = .ok (.putfield 34, 3) := by decide +kernel
theorem dM_about_29 : decode cM_about 29 = .ok (.aload_n 0, 1) := by decide +kernel
theorem dM_about_30 : decode cM_about 30 = .ok (.getfield 34, 3) := by decide +kernel
theorem dM_about_33 : decode cM_about 33 = .ok (.ifCond .le 7, 3) := by decide +kernel
theorem dM_about_36 : decode cM_about 36 = .ok (.iconst 0, 1) := by decide +kernel
theorem dM_about_37 : decode cM_about 37 = .ok (.goto 42, 3) := by decide +kernel
theorem dM_about_40 : decode cM_about 40 = .ok (.iload_n 1, 1) := by decide +kernel
theorem dM_about_41 : decode cM_about 41 = .ok (.ifCond .ne 10, 3) := by decide +kernel
theorem dM_about_44 : decode cM_about 44 = .ok (.aload_n 0, 1) := by decide +kernel
theorem dM_about_45 : decode cM_about 45 = .ok (.getfield 57, 3) := by decide +kernel
theorem dM_about_48 : decode cM_about 48 = .ok (.goto 31, 3) := by decide +kernel
theorem dM_about_51 : decode cM_about 51 = .ok (.iload_n 1, 1) := by decide +kernel
theorem dM_about_52 : decode cM_about 52 = .ok (.iconst 1, 1) := by decide +kernel
theorem dM_about_53 : decode cM_about 53 = .ok (.if_icmp .ne 10, 3) := by decide +kernel
theorem dM_about_56 : decode cM_about 56 = .ok (.aload_n 0, 1) := by decide +kernel
theorem dM_about_57 : decode cM_about 57 = .ok (.getfield 60, 3) := by decide +kernel
theorem dM_about_60 : decode cM_about 60 = .ok (.goto 19, 3) := by decide +kernel
theorem dM_about_63 : decode cM_about 63 = .ok (.iload_n 1, 1) := by decide +kernel
theorem dM_about_64 : decode cM_about 64 = .ok (.iconst 2, 1) := by decide +kernel
theorem dM_about_65 : decode cM_about 65 = .ok (.if_icmp .ne 10, 3) := by decide +kernel
theorem dM_about_68 : decode cM_about 68 = .ok (.aload_n 0, 1) := by decide +kernel
theorem dM_about_69 : decode cM_about 69 = .ok (.getfield 63, 3) := by decide +kernel
theorem dM_about_72 : decode cM_about 72 = .ok (.goto 7, 3) := by decide +kernel
theorem dM_about_75 : decode cM_about 75 = .ok (.aload_n 0, 1) := by decide +kernel
theorem dM_about_76 : decode cM_about 76 = .ok (.getfield 66, 3) := by decide +kernel
theorem dM_about_79 : decode cM_about 79 = .ok (.ireturn, 1) := by decide +kernel
theorem dM_byteAt_0 : decode cM_byteAt 0 = .ok (.aload_n 0, 1) := by decide +kernel
theorem dM_byteAt_1 : decode cM_byteAt 1 = .ok (.aload_n 0, 1) := by decide +kernel
theorem dM_byteAt_2 : decode cM_byteAt 2 = .ok (.getfield 53, 3) := by decide +kernel
theorem dM_byteAt_5 : decode cM_byteAt 5 = .ok (.ifCond .ne 7, 3) := by decide +kernel
theorem dM_byteAt_8 : decode cM_byteAt 8 = .ok (.iconst 1, 1) := by decide +kernel
theorem dM_byteAt_9 : decode cM_byteAt 9 = .ok (.goto 20, 3) := by decide +kernel
theorem dM_byteAt_12 : decode cM_byteAt 12 = .ok (.iload_n 1, 1) := by decide +kernel
theorem dM_byteAt_13 : decode cM_byteAt 13 = .ok (.ifCond .lt 11, 3) := by decide +kernel
theorem dM_byteAt_16 : decode cM_byteAt 16 = .ok (.iload_n 1, 1) := by decide +kernel
theorem dM_byteAt_17 : decode cM_byteAt 17 = .ok (.aload_n 0, 1) := by decide +kernel
theorem dM_byteAt_18 : decode cM_byteAt 18 = .ok (.getfield 66, 3) := by decide +kernel
theorem dM_byteAt_21 : decode cM_byteAt 21 = .ok (.if_icmp .lt 7, 3) := by decide +kernel
theorem dM_byteAt_24 : decode cM_byteAt 24 = .ok (.iconst 2, 1) := by decide +kernel
theorem dM_byteAt_25 : decode cM_byteAt 25 = .ok (.goto 4, 3) := by decide +kernel
theorem dM_byteAt_28 : decode cM_byteAt 28 = .ok (.iconst 0, 1) := by decide +kernel
theorem dM_byteAt_29 : decode cM_byteAt 29 = .ok (.putfield 34, 3) := by decide +kernel
theorem dM_byteAt_32 : decode cM_byteAt 32 = .ok (.aload_n 0, 1) := by decide +kernel
theorem dM_byteAt_33 : decode cM_byteAt 33 = .ok (.getfield 34, 3) := by decide +kernel
theorem dM_byteAt_36 : decode cM_byteAt 36 = .ok (.ifCond .le 7, 3) := by decide +kernel
theorem dM_byteAt_39 : decode cM_byteAt 39 = .ok (.iconst 0, 1) := by decide +kernel
theorem dM_byteAt_40 : decode cM_byteAt 40 = .ok (.goto 9, 3) := by decide +kernel
theorem dM_byteAt_43 : decode cM_byteAt 43 = .ok (.aload_n 0, 1) := by decide +kernel
theorem dM_byteAt_44 : decode cM_byteAt 44 = .ok (.getfield 31, 3) := by decide +kernel
theorem dM_byteAt_47 : decode cM_byteAt 47 = .ok (.iload_n 1, 1) := by decide +kernel
theorem dM_byteAt_48 : decode cM_byteAt 48 = .ok (.iaload, 1) := by decide +kernel
theorem dM_byteAt_49 : decode cM_byteAt 49 = .ok (.ireturn, 1) := by decide +kernel
theorem dM_missing_0 : decode cM_missing 0 = .ok (.aload_n 0, 1) := by decide +kernel
theorem dM_missing_1 : decode cM_missing 1 = .ok (.iconst 0, 1) := by decide +kernel
theorem dM_missing_2 : decode cM_missing 2 = .ok (.putfield 34, 3) := by decide +kernel
theorem dM_missing_5 : decode cM_missing 5 = .ok (.aload_n 0, 1) := by decide +kernel
theorem dM_missing_6 : decode cM_missing 6 = .ok (.iload_n 1, 1) := by decide +kernel
theorem dM_missing_7 : decode cM_missing 7 = .ok (.iload_n 2, 1) := by decide +kernel
theorem dM_missing_8 : decode cM_missing 8 = .ok (.iload_n 3, 1) := by decide +kernel
theorem dM_missing_9 : decode cM_missing 9 = .ok (.invokevirtual 69, 3) := by decide +kernel
theorem dM_missing_12 : decode cM_missing 12 = .ok (.istore 4, 2) := by decide +kernel
theorem dM_missing_14 : decode cM_missing 14 = .ok (.iload 4, 2) := by decide +kernel
theorem dM_missing_16 : decode cM_missing 16 = .ok (.ifCond .ge 7, 3) := by decide +kernel
theorem dM_missing_19 : decode cM_missing 19 = .ok (.iconst (-1), 1) := by decide +kernel
theorem dM_missing_20 : decode cM_missing 20 = .ok (.goto 9, 3) := by decide +kernel
theorem dM_missing_23 : decode cM_missing 23 = .ok (.aload_n 0, 1) := by decide +kernel
theorem dM_missing_24 : decode cM_missing 24 = .ok (.iload 4, 2) := by decide +kernel
theorem dM_missing_26 : decode cM_missing 26 = .ok (.invokevirtual 77, 3) := by decide +kernel
theorem dM_missing_29 : decode cM_missing 29 = .ok (.ireturn, 1) := by decide +kernel
theorem dM_has_0 : decode cM_has 0 = .ok (.aload_n 0, 1) := by decide +kernel
theorem dM_has_1 : decode cM_has 1 = .ok (.iconst 0, 1) := by decide +kernel
theorem dM_has_2 : decode cM_has 2 = .ok (.putfield 34, 3) := by decide +kernel
theorem dM_has_5 : decode cM_has 5 = .ok (.aload_n 0, 1) := by decide +kernel
theorem dM_has_6 : decode cM_has 6 = .ok (.iload_n 1, 1) := by decide +kernel
theorem dM_has_7 : decode cM_has 7 = .ok (.iload_n 2, 1) := by decide +kernel
theorem dM_has_8 : decode cM_has 8 = .ok (.iload_n 3, 1) := by decide +kernel
theorem dM_has_9 : decode cM_has 9 = .ok (.invokevirtual 69, 3) := by decide +kernel
theorem dM_has_12 : decode cM_has 12 = .ok (.istore 5, 2) := by decide +kernel
theorem dM_has_14 : decode cM_has 14 = .ok (.iload 5, 2) := by decide +kernel
theorem dM_has_16 : decode cM_has 16 = .ok (.ifCond .lt 41, 3) := by decide +kernel
theorem dM_has_19 : decode cM_has 19 = .ok (.iload 4, 2) := by decide +kernel
theorem dM_has_21 : decode cM_has 21 = .ok (.ifCond .lt 36, 3) := by decide +kernel
theorem dM_has_24 : decode cM_has 24 = .ok (.iload 4, 2) := by decide +kernel
theorem dM_has_26 : decode cM_has 26 = .ok (.aload_n 0, 1) := by decide +kernel
theorem dM_has_27 : decode cM_has 27 = .ok (.getfield 25, 3) := by decide +kernel
theorem dM_has_30 : decode cM_has 30 = .ok (.iload 5, 2) := by decide +kernel
theorem dM_has_32 : decode cM_has 32 = .ok (.iaload, 1) := by decide +kernel
theorem dM_has_33 : decode cM_has 33 = .ok (.if_icmp .ge 24, 3) := by decide +kernel
theorem dM_has_36 : decode cM_has 36 = .ok (.aload_n 0, 1) := by decide +kernel
theorem dM_has_37 : decode cM_has 37 = .ok (.getfield 28, 3) := by decide +kernel
theorem dM_has_40 : decode cM_has 40 = .ok (.sipush 1480, 3) := by decide +kernel
theorem dM_has_43 : decode cM_has 43 = .ok (.iload 5, 2) := by decide +kernel
theorem dM_has_45 : decode cM_has 45 = .ok (.imul, 1) := by decide +kernel
theorem dM_has_46 : decode cM_has 46 = .ok (.iload 4, 2) := by decide +kernel
theorem dM_has_48 : decode cM_has 48 = .ok (.iadd, 1) := by decide +kernel
theorem dM_has_49 : decode cM_has 49 = .ok (.iaload, 1) := by decide +kernel
theorem dM_has_50 : decode cM_has 50 = .ok (.ifCond .lt 7, 3) := by decide +kernel
theorem dM_has_53 : decode cM_has 53 = .ok (.iconst 1, 1) := by decide +kernel
theorem dM_has_54 : decode cM_has 54 = .ok (.goto 4, 3) := by decide +kernel
theorem dM_has_57 : decode cM_has 57 = .ok (.iconst 0, 1) := by decide +kernel
theorem dM_has_58 : decode cM_has 58 = .ok (.ireturn, 1) := by decide +kernel
theorem dM_waiting_0 : decode cM_waiting 0 = .ok (.aload_n 0, 1) := by decide +kernel
theorem dM_waiting_1 : decode cM_waiting 1 = .ok (.iconst 0, 1) := by decide +kernel
theorem dM_waiting_2 : decode cM_waiting 2 = .ok (.putfield 34, 3) := by decide +kernel
theorem dM_waiting_5 : decode cM_waiting 5 = .ok (.aload_n 0, 1) := by decide +kernel
theorem dM_waiting_6 : decode cM_waiting 6 = .ok (.getfield 43, 3) := by decide +kernel
theorem dM_waiting_9 : decode cM_waiting 9 = .ok (.ireturn, 1) := by decide +kernel
