theorem dX6_init_0 : decode cX6_init 0 = .ok (.aload_n 0, 1) := by decide +kernel
theorem dX6_init_1 : decode cX6_init 1 = .ok (.invokespecial 1, 3) := by decide +kernel
theorem dX6_init_4 : decode cX6_init 4 = .ok (.aload_n 0, 1) := by decide +kernel
theorem dX6_init_5 : decode cX6_init 5 = .ok (.sipush 158, 3) := by decide +kernel
theorem dX6_init_8 : decode cX6_init 8 = .ok (.newarray .int, 2) := by decide +kernel
theorem dX6_init_10 : decode cX6_init 10 = .ok (.putfield 7, 3) := by decide +kernel
theorem dX6_init_13 : decode cX6_init 13 = .ok (.aload_n 0, 1) := by decide +kernel
theorem dX6_init_14 : decode cX6_init 14 = .ok (.sipush 158, 3) := by decide +kernel
theorem dX6_init_17 : decode cX6_init 17 = .ok (.newarray .int, 2) := by decide +kernel
theorem dX6_init_19 : decode cX6_init 19 = .ok (.putfield 13, 3) := by decide +kernel
theorem dX6_init_22 : decode cX6_init 22 = .ok (.aload_n 0, 1) := by decide +kernel
theorem dX6_init_23 : decode cX6_init 23 = .ok (.sipush 632, 3) := by decide +kernel
theorem dX6_init_26 : decode cX6_init 26 = .ok (.newarray .int, 2) := by decide +kernel
theorem dX6_init_28 : decode cX6_init 28 = .ok (.putfield 16, 3) := by decide +kernel
theorem dX6_init_31 : decode cX6_init 31 = .ok (.aload_n 0, 1) := by decide +kernel
theorem dX6_init_32 : decode cX6_init 32 = .ok (.bipush 60, 2) := by decide +kernel
theorem dX6_init_34 : decode cX6_init 34 = .ok (.newarray .int, 2) := by decide +kernel
theorem dX6_init_36 : decode cX6_init 36 = .ok (.putfield 19, 3) := by decide +kernel
theorem dX6_init_39 : decode cX6_init 39 = .ok (.aload_n 0, 1) := by decide +kernel
theorem dX6_init_40 : decode cX6_init 40 = .ok (.bipush 10, 2) := by decide +kernel
theorem dX6_init_42 : decode cX6_init 42 = .ok (.newarray .int, 2) := by decide +kernel
theorem dX6_init_44 : decode cX6_init 44 = .ok (.putfield 22, 3) := by decide +kernel
theorem dX6_init_47 : decode cX6_init 47 = .ok (.aload_n 0, 1) := by decide +kernel
theorem dX6_init_48 : decode cX6_init 48 = .ok (.bipush 10, 2) := by decide +kernel
theorem dX6_init_50 : decode cX6_init 50 = .ok (.newarray .int, 2) := by decide +kernel
theorem dX6_init_52 : decode cX6_init 52 = .ok (.putfield 25, 3) := by decide +kernel
theorem dX6_init_55 : decode cX6_init 55 = .ok (.aload_n 0, 1) := by decide +kernel
theorem dX6_init_56 : decode cX6_init 56 = .ok (.bipush 10, 2) := by decide +kernel
theorem dX6_init_58 : decode cX6_init 58 = .ok (.newarray .int, 2) := by decide +kernel
theorem dX6_init_60 : decode cX6_init 60 = .ok (.putfield 28, 3) := by decide +kernel
theorem dX6_init_63 : decode cX6_init 63 = .ok (.aload_n 0, 1) := by decide +kernel
theorem dX6_init_64 : decode cX6_init 64 = .ok (.bipush 10, 2) := by decide +kernel
theorem dX6_init_66 : decode cX6_init 66 = .ok (.newarray .int, 2) := by decide +kernel
theorem dX6_init_68 : decode cX6_init 68 = .ok (.putfield 31, 3) := by decide +kernel
theorem dX6_init_71 : decode cX6_init 71 = .ok (.aload_n 0, 1) := by decide +kernel
theorem dX6_init_72 : decode cX6_init 72 = .ok (.bipush 10, 2) := by decide +kernel
theorem dX6_init_74 : decode cX6_init 74 = .ok (.newarray .int, 2) := by decide +kernel
theorem dX6_init_76 : decode cX6_init 76 = .ok (.putfield 34, 3) := by decide +kernel
theorem dX6_init_79 : decode cX6_init 79 = .ok (.aload_n 0, 1) := by decide +kernel
theorem dX6_init_80 : decode cX6_init 80 = .ok (.bipush 10, 2) := by decide +kernel
theorem dX6_init_82 : decode cX6_init 82 = .ok (.newarray .int, 2) := by decide +kernel
theorem dX6_init_84 : decode cX6_init 84 = .ok (.putfield 37, 3) := by decide +kernel
theorem dX6_init_87 : decode cX6_init 87 = .ok (.aload_n 0, 1) := by decide +kernel
theorem dX6_init_88 : decode cX6_init 88 = .ok (.bipush 10, 2) := by decide +kernel
theorem dX6_init_90 : decode cX6_init 90 = .ok (.newarray .int, 2) := by decide +kernel
theorem dX6_init_92 : decode cX6_init 92 = .ok (.putfield 40, 3) := by decide +kernel
theorem dX6_init_95 : decode cX6_init 95 = .ok (.aload_n 0, 1) := by decide +kernel
theorem dX6_init_96 : decode cX6_init 96 = .ok (.bipush 6, 2) := by decide +kernel
theorem dX6_init_98 : decode cX6_init 98 = .ok (.newarray .int, 2) := by decide +kernel
theorem dX6_init_100 : decode cX6_init 100 = .ok (.putfield 43, 3) := by decide +kernel
theorem dX6_init_103 : decode cX6_init 103 = .ok (.aload_n 0, 1) := by decide +kernel
theorem dX6_init_104 : decode cX6_init 104 = .ok (.getfield 7, 3) := by decide +kernel
theorem dX6_init_107 : decode cX6_init 107 = .ok (.iconst 5, 1) := by decide +kernel
theorem dX6_init_108 : decode cX6_init 108 = .ok (.bipush 10, 2) := by decide +kernel
theorem dX6_init_110 : decode cX6_init 110 = .ok (.iastore, 1) := by decide +kernel
theorem dX6_init_111 : decode cX6_init 111 = .ok (.return_, 1) := by decide +kernel
theorem dX6_in_0 : decode cX6_in 0 = .ok (.iload_n 0, 1) := by decide +kernel
theorem dX6_in_1 : decode cX6_in 1 = .ok (.iload_n 1, 1) := by decide +kernel
theorem dX6_in_2 : decode cX6_in 2 = .ok (.if_icmp .lt 12, 3) := by decide +kernel
theorem dX6_in_5 : decode cX6_in 5 = .ok (.iload_n 0, 1) := by decide +kernel
theorem dX6_in_6 : decode cX6_in 6 = .ok (.iload_n 2, 1) := by decide +kernel
theorem dX6_in_7 : decode cX6_in 7 = .ok (.if_icmp .gt 7, 3) := by decide +kernel
theorem dX6_in_10 : decode cX6_in 10 = .ok (.iconst 1, 1) := by decide +kernel
theorem dX6_in_11 : decode cX6_in 11 = .ok (.goto 4, 3) := by decide +kernel
theorem dX6_in_14 : decode cX6_in 14 = .ok (.iconst 0, 1) := by decide +kernel
theorem dX6_in_15 : decode cX6_in 15 = .ok (.ireturn, 1) := by decide +kernel
theorem dX6_isCell_0 : decode cX6_isCell 0 = .ok (.iload_n 0, 1) := by decide +kernel
theorem dX6_isCell_1 : decode cX6_isCell 1 = .ok (.iconst 0, 1) := by decide +kernel
theorem dX6_isCell_2 : decode cX6_isCell 2 = .ok (.bipush 9, 2) := by decide +kernel
theorem dX6_isCell_4 : decode cX6_isCell 4 = .ok (.invokestatic 46, 3) := by decide +kernel
theorem dX6_isCell_7 : decode cX6_isCell 7 = .ok (.ireturn, 1) := by decide +kernel
theorem dX6_of_0 : decode cX6_of 0 = .ok (.aload_n 0, 1) := by decide +kernel
theorem dX6_of_1 : decode cX6_of 1 = .ok (.getfield 7, 3) := by decide +kernel
theorem dX6_of_4 : decode cX6_of 4 = .ok (.bipush 8, 2) := by decide +kernel
theorem dX6_of_6 : decode cX6_of 6 = .ok (.bipush 15, 2) := by decide +kernel
theorem dX6_of_8 : decode cX6_of 8 = .ok (.iload_n 1, 1) := by decide +kernel
theorem dX6_of_9 : decode cX6_of 9 = .ok (.imul, 1) := by decide +kernel
theorem dX6_of_10 : decode cX6_of 10 = .ok (.iadd, 1) := by decide +kernel
theorem dX6_of_11 : decode cX6_of 11 = .ok (.iload_n 2, 1) := by decide +kernel
theorem dX6_of_12 : decode cX6_of 12 = .ok (.iadd, 1) := by decide +kernel
theorem dX6_of_13 : decode cX6_of 13 = .ok (.iaload, 1) := by decide +kernel
theorem dX6_of_14 : decode cX6_of 14 = .ok (.ireturn, 1) := by decide +kernel
theorem dX6_puts_0 : decode cX6_puts 0 = .ok (.aload_n 0, 1) := by decide +kernel
theorem dX6_puts_1 : decode cX6_puts 1 = .ok (.getfield 7, 3) := by decide +kernel
theorem dX6_puts_4 : decode cX6_puts 4 = .ok (.bipush 8, 2) := by decide +kernel
theorem dX6_puts_6 : decode cX6_puts 6 = .ok (.bipush 15, 2) := by decide +kernel
theorem dX6_puts_8 : decode cX6_puts 8 = .ok (.iload_n 1, 1) := by decide +kernel
theorem dX6_puts_9 : decode cX6_puts 9 = .ok (.imul, 1) := by decide +kernel
theorem dX6_puts_10 : decode cX6_puts 10 = .ok (.iadd, 1) := by decide +kernel
theorem dX6_puts_11 : decode cX6_puts 11 = .ok (.iload_n 2, 1) := by decide +kernel
theorem dX6_puts_12 : decode cX6_puts 12 = .ok (.iadd, 1) := by decide +kernel
theorem dX6_puts_13 : decode cX6_puts 13 = .ok (.iload_n 3, 1) := by decide +kernel
theorem dX6_puts_14 : decode cX6_puts 14 = .ok (.iastore, 1) := by decide +kernel
theorem dX6_puts_15 : decode cX6_puts 15 = .ok (.return_, 1) := by decide +kernel
theorem dX6_begins_0 : decode cX6_begins 0 = .ok (.iconst 0, 1) := by decide +kernel
theorem dX6_begins_1 : decode cX6_begins 1 = .ok (.istore_n 1, 1) := by decide +kernel
theorem dX6_begins_2 : decode cX6_begins 2 = .ok (.iload_n 1, 1) := by decide +kernel
theorem dX6_begins_3 : decode cX6_begins 3 = .ok (.sipush 158, 3) := by decide +kernel
theorem dX6_begins_6 : decode cX6_begins 6 = .ok (.if_icmp .ge 21, 3) := by decide +kernel
theorem dX6_begins_9 : decode cX6_begins 9 = .ok (.aload_n 0, 1) := by decide +kernel
theorem dX6_begins_10 : decode cX6_begins 10 = .ok (.getfield 13, 3) := by decide +kernel
theorem dX6_begins_13 : decode cX6_begins 13 = .ok (.iload_n 1, 1) := by decide +kernel
theorem dX6_begins_14 : decode cX6_begins 14 = .ok (.aload_n 0, 1) := by decide +kernel
theorem dX6_begins_15 : decode cX6_begins 15 = .ok (.getfield 7, 3) := by decide +kernel
theorem dX6_begins_18 : decode cX6_begins 18 = .ok (.iload_n 1, 1) := by decide +kernel
theorem dX6_begins_19 : decode cX6_begins 19 = .ok (.iaload, 1) := by decide +kernel
theorem dX6_begins_20 : decode cX6_begins 20 = .ok (.iastore, 1) := by decide +kernel
theorem dX6_begins_21 : decode cX6_begins 21 = .ok (.iinc 1 1, 3) := by decide +kernel
theorem dX6_begins_24 : decode cX6_begins 24 = .ok (.goto (-22), 3) := by decide +kernel
theorem dX6_begins_27 : decode cX6_begins 27 = .ok (.return_, 1) := by decide +kernel
theorem dX6_returns_0 : decode cX6_returns 0 = .ok (.iconst 0, 1) := by decide +kernel
theorem dX6_returns_1 : decode cX6_returns 1 = .ok (.istore_n 1, 1) := by decide +kernel
theorem dX6_returns_2 : decode cX6_returns 2 = .ok (.iload_n 1, 1) := by decide +kernel
theorem dX6_returns_3 : decode cX6_returns 3 = .ok (.sipush 158, 3) := by decide +kernel
theorem dX6_returns_6 : decode cX6_returns 6 = .ok (.if_icmp .ge 21, 3) := by decide +kernel
theorem dX6_returns_9 : decode cX6_returns 9 = .ok (.aload_n 0, 1) := by decide +kernel
theorem dX6_returns_10 : decode cX6_returns 10 = .ok (.getfield 7, 3) := by decide +kernel
theorem dX6_returns_13 : decode cX6_returns 13 = .ok (.iload_n 1, 1) := by decide +kernel
theorem dX6_returns_14 : decode cX6_returns 14 = .ok (.aload_n 0, 1) := by decide +kernel
theorem dX6_returns_15 : decode cX6_returns 15 = .ok (.getfield 13, 3) := by decide +kernel
theorem dX6_returns_18 : decode cX6_returns 18 = .ok (.iload_n 1, 1) := by decide +kernel
theorem dX6_returns_19 : decode cX6_returns 19 = .ok (.iaload, 1) := by decide +kernel
theorem dX6_returns_20 : decode cX6_returns 20 = .ok (.iastore, 1) := by decide +kernel
theorem dX6_returns_21 : decode cX6_returns 21 = .ok (.iinc 1 1, 3) := by decide +kernel
theorem dX6_returns_24 : decode cX6_returns 24 = .ok (.goto (-22), 3) := by decide +kernel
theorem dX6_returns_27 : decode cX6_returns 27 = .ok (.return_, 1) := by decide +kernel
theorem dX6_acted_0 : decode cX6_acted 0 = .ok (.iload_n 1, 1) := by decide +kernel
theorem dX6_acted_1 : decode cX6_acted 1 = .ok (.ldc 50, 2) := by decide +kernel
theorem dX6_acted_3 : decode cX6_acted 3 = .ok (.if_icmp .gt 5, 3) := by decide +kernel
theorem dX6_acted_6 : decode cX6_acted 6 = .ok (.iload_n 1, 1) := by decide +kernel
theorem dX6_acted_7 : decode cX6_acted 7 = .ok (.ireturn, 1) := by decide +kernel
theorem dX6_acted_8 : decode cX6_acted 8 = .ok (.aload_n 0, 1) := by decide +kernel
theorem dX6_acted_9 : decode cX6_acted 9 = .ok (.getfield 51, 3) := by decide +kernel
theorem dX6_acted_12 : decode cX6_acted 12 = .ok (.iconst 4, 1) := by decide +kernel
theorem dX6_acted_13 : decode cX6_acted 13 = .ok (.if_icmp .ne 44, 3) := by decide +kernel
theorem dX6_acted_16 : decode cX6_acted 16 = .ok (.iconst 0, 1) := by decide +kernel
theorem dX6_acted_17 : decode cX6_acted 17 = .ok (.istore_n 2, 1) := by decide +kernel
theorem dX6_acted_18 : decode cX6_acted 18 = .ok (.iload_n 2, 1) := by decide +kernel
theorem dX6_acted_19 : decode cX6_acted 19 = .ok (.sipush 474, 3) := by decide +kernel
theorem dX6_acted_22 : decode cX6_acted 22 = .ok (.if_icmp .ge 25, 3) := by decide +kernel
theorem dX6_acted_25 : decode cX6_acted 25 = .ok (.aload_n 0, 1) := by decide +kernel
theorem dX6_acted_26 : decode cX6_acted 26 = .ok (.getfield 16, 3) := by decide +kernel
theorem dX6_acted_29 : decode cX6_acted 29 = .ok (.iload_n 2, 1) := by decide +kernel
theorem dX6_acted_30 : decode cX6_acted 30 = .ok (.aload_n 0, 1) := by decide +kernel
theorem dX6_acted_31 : decode cX6_acted 31 = .ok (.getfield 16, 3) := by decide +kernel
theorem dX6_acted_34 : decode cX6_acted 34 = .ok (.iload_n 2, 1) := by decide +kernel
theorem dX6_acted_35 : decode cX6_acted 35 = .ok (.sipush 158, 3) := by decide +kernel
theorem dX6_acted_38 : decode cX6_acted 38 = .ok (.iadd, 1) := by decide +kernel
theorem dX6_acted_39 : decode cX6_acted 39 = .ok (.iaload, 1) := by decide +kernel
theorem dX6_acted_40 : decode cX6_acted 40 = .ok (.iastore, 1) := by decide +kernel
theorem dX6_acted_41 : decode cX6_acted 41 = .ok (.iinc 2 1, 3) := by decide +kernel
theorem dX6_acted_44 : decode cX6_acted 44 = .ok (.goto (-26), 3) := by decide +kernel
theorem dX6_acted_47 : decode cX6_acted 47 = .ok (.aload_n 0, 1) := by decide +kernel
theorem dX6_acted_48 : decode cX6_acted 48 = .ok (.dup, 1) := by decide +kernel
theorem dX6_acted_49 : decode cX6_acted 49 = .ok (.getfield 51, 3) := by decide +kernel
theorem dX6_acted_52 : decode cX6_acted 52 = .ok (.iconst 1, 1) := by decide +kernel
theorem dX6_acted_53 : decode cX6_acted 53 = .ok (.isub, 1) := by decide +kernel
theorem dX6_acted_54 : decode cX6_acted 54 = .ok (.putfield 51, 3) := by decide +kernel
theorem dX6_acted_57 : decode cX6_acted 57 = .ok (.iconst 0, 1) := by decide +kernel
theorem dX6_acted_58 : decode cX6_acted 58 = .ok (.istore_n 2, 1) := by decide +kernel
theorem dX6_acted_59 : decode cX6_acted 59 = .ok (.iload_n 2, 1) := by decide +kernel
theorem dX6_acted_60 : decode cX6_acted 60 = .ok (.sipush 158, 3) := by decide +kernel
theorem dX6_acted_63 : decode cX6_acted 63 = .ok (.if_icmp .ge 30, 3) := by decide +kernel
theorem dX6_acted_66 : decode cX6_acted 66 = .ok (.aload_n 0, 1) := by decide +kernel
theorem dX6_acted_67 : decode cX6_acted 67 = .ok (.getfield 16, 3) := by decide +kernel
theorem dX6_acted_70 : decode cX6_acted 70 = .ok (.sipush 158, 3) := by decide +kernel
theorem dX6_acted_73 : decode cX6_acted 73 = .ok (.aload_n 0, 1) := by decide +kernel
theorem dX6_acted_74 : decode cX6_acted 74 = .ok (.getfield 51, 3) := by decide +kernel
theorem dX6_acted_77 : decode cX6_acted 77 = .ok (.imul, 1) := by decide +kernel
theorem dX6_acted_78 : decode cX6_acted 78 = .ok (.iload_n 2, 1) := by decide +kernel
theorem dX6_acted_79 : decode cX6_acted 79 = .ok (.iadd, 1) := by decide +kernel
theorem dX6_acted_80 : decode cX6_acted 80 = .ok (.aload_n 0, 1) := by decide +kernel
theorem dX6_acted_81 : decode cX6_acted 81 = .ok (.getfield 13, 3) := by decide +kernel
theorem dX6_acted_84 : decode cX6_acted 84 = .ok (.iload_n 2, 1) := by decide +kernel
theorem dX6_acted_85 : decode cX6_acted 85 = .ok (.iaload, 1) := by decide +kernel
theorem dX6_acted_86 : decode cX6_acted 86 = .ok (.iastore, 1) := by decide +kernel
theorem dX6_acted_87 : decode cX6_acted 87 = .ok (.iinc 2 1, 3) := by decide +kernel
theorem dX6_acted_90 : decode cX6_acted 90 = .ok (.goto (-31), 3) := by decide +kernel
theorem dX6_acted_93 : decode cX6_acted 93 = .ok (.aload_n 0, 1) := by decide +kernel
theorem dX6_acted_94 : decode cX6_acted 94 = .ok (.dup, 1) := by decide +kernel
theorem dX6_acted_95 : decode cX6_acted 95 = .ok (.getfield 51, 3) := by decide +kernel
theorem dX6_acted_98 : decode cX6_acted 98 = .ok (.iconst 1, 1) := by decide +kernel
theorem dX6_acted_99 : decode cX6_acted 99 = .ok (.iadd, 1) := by decide +kernel
theorem dX6_acted_100 : decode cX6_acted 100 = .ok (.putfield 51, 3) := by decide +kernel
theorem dX6_acted_103 : decode cX6_acted 103 = .ok (.iload_n 1, 1) := by decide +kernel
theorem dX6_acted_104 : decode cX6_acted 104 = .ok (.ireturn, 1) := by decide +kernel
theorem dX6_isSo_0 : decode cX6_isSo 0 = .ok (.aload_n 0, 1) := by decide +kernel
theorem dX6_isSo_1 : decode cX6_isSo 1 = .ok (.iload_n 1, 1) := by decide +kernel
theorem dX6_isSo_2 : decode cX6_isSo 2 = .ok (.iconst 0, 1) := by decide +kernel
theorem dX6_isSo_3 : decode cX6_isSo 3 = .ok (.invokevirtual 55, 3) := by decide +kernel
theorem dX6_isSo_6 : decode cX6_isSo 6 = .ok (.iload_n 2, 1) := by decide +kernel
theorem dX6_isSo_7 : decode cX6_isSo 7 = .ok (.if_icmp .ne 50, 3) := by decide +kernel
theorem dX6_isSo_10 : decode cX6_isSo 10 = .ok (.aload_n 0, 1) := by decide +kernel
theorem dX6_isSo_11 : decode cX6_isSo 11 = .ok (.iload_n 1, 1) := by decide +kernel
theorem dX6_isSo_12 : decode cX6_isSo 12 = .ok (.iconst 1, 1) := by decide +kernel
theorem dX6_isSo_13 : decode cX6_isSo 13 = .ok (.invokevirtual 55, 3) := by decide +kernel
theorem dX6_isSo_16 : decode cX6_isSo 16 = .ok (.iload_n 3, 1) := by decide +kernel
theorem dX6_isSo_17 : decode cX6_isSo 17 = .ok (.if_icmp .ne 40, 3) := by decide +kernel
theorem dX6_isSo_20 : decode cX6_isSo 20 = .ok (.aload_n 0, 1) := by decide +kernel
theorem dX6_isSo_21 : decode cX6_isSo 21 = .ok (.iload_n 1, 1) := by decide +kernel
theorem dX6_isSo_22 : decode cX6_isSo 22 = .ok (.iconst 2, 1) := by decide +kernel
theorem dX6_isSo_23 : decode cX6_isSo 23 = .ok (.invokevirtual 55, 3) := by decide +kernel
theorem dX6_isSo_26 : decode cX6_isSo 26 = .ok (.iload 4, 2) := by decide +kernel
theorem dX6_isSo_28 : decode cX6_isSo 28 = .ok (.if_icmp .ne 29, 3) := by decide +kernel
theorem dX6_isSo_31 : decode cX6_isSo 31 = .ok (.aload_n 0, 1) := by decide +kernel
theorem dX6_isSo_32 : decode cX6_isSo 32 = .ok (.iload_n 1, 1) := by decide +kernel
theorem dX6_isSo_33 : decode cX6_isSo 33 = .ok (.iconst 3, 1) := by decide +kernel
theorem dX6_isSo_34 : decode cX6_isSo 34 = .ok (.invokevirtual 55, 3) := by decide +kernel
theorem dX6_isSo_37 : decode cX6_isSo 37 = .ok (.iload 5, 2) := by decide +kernel
theorem dX6_isSo_39 : decode cX6_isSo 39 = .ok (.if_icmp .ne 18, 3) := by decide +kernel
theorem dX6_isSo_42 : decode cX6_isSo 42 = .ok (.aload_n 0, 1) := by decide +kernel
theorem dX6_isSo_43 : decode cX6_isSo 43 = .ok (.iload_n 1, 1) := by decide +kernel
theorem dX6_isSo_44 : decode cX6_isSo 44 = .ok (.iconst 4, 1) := by decide +kernel
theorem dX6_isSo_45 : decode cX6_isSo 45 = .ok (.invokevirtual 55, 3) := by decide +kernel
theorem dX6_isSo_48 : decode cX6_isSo 48 = .ok (.iload 6, 2) := by decide +kernel
theorem dX6_isSo_50 : decode cX6_isSo 50 = .ok (.if_icmp .ne 7, 3) := by decide +kernel
theorem dX6_isSo_53 : decode cX6_isSo 53 = .ok (.iconst 1, 1) := by decide +kernel
theorem dX6_isSo_54 : decode cX6_isSo 54 = .ok (.goto 4, 3) := by decide +kernel
theorem dX6_isSo_57 : decode cX6_isSo 57 = .ok (.iconst 0, 1) := by decide +kernel
theorem dX6_isSo_58 : decode cX6_isSo 58 = .ok (.ireturn, 1) := by decide +kernel
theorem dX6_defines_0 : decode cX6_defines 0 = .ok (.aload_n 0, 1) := by decide +kernel
theorem dX6_defines_1 : decode cX6_defines 1 = .ok (.iload_n 1, 1) := by decide +kernel
theorem dX6_defines_2 : decode cX6_defines 2 = .ok (.iload_n 2, 1) := by decide +kernel
theorem dX6_defines_3 : decode cX6_defines 3 = .ok (.iload_n 3, 1) := by decide +kernel
theorem dX6_defines_4 : decode cX6_defines 4 = .ok (.iload 4, 2) := by decide +kernel
theorem dX6_defines_6 : decode cX6_defines 6 = .ok (.iload 5, 2) := by decide +kernel
theorem dX6_defines_8 : decode cX6_defines 8 = .ok (.iload 6, 2) := by decide +kernel
theorem dX6_defines_10 : decode cX6_defines 10 = .ok (.invokevirtual 59, 3) := by decide +kernel
theorem dX6_defines_13 : decode cX6_defines 13 = .ok (.ifCond .ne 87, 3) := by decide +kernel
theorem dX6_defines_16 : decode cX6_defines 16 = .ok (.aload_n 0, 1) := by decide +kernel
theorem dX6_defines_17 : decode cX6_defines 17 = .ok (.getfield 7, 3) := by decide +kernel
theorem dX6_defines_20 : decode cX6_defines 20 = .ok (.iconst 0, 1) := by decide +kernel
theorem dX6_defines_21 : decode cX6_defines 21 = .ok (.dup2, 1) := by decide +kernel
theorem dX6_defines_22 : decode cX6_defines 22 = .ok (.iaload, 1) := by decide +kernel
theorem dX6_defines_23 : decode cX6_defines 23 = .ok (.iconst 1, 1) := by decide +kernel
theorem dX6_defines_24 : decode cX6_defines 24 = .ok (.iadd, 1) := by decide +kernel
theorem dX6_defines_25 : decode cX6_defines 25 = .ok (.iastore, 1) := by decide +kernel
theorem dX6_defines_26 : decode cX6_defines 26 = .ok (.iconst 0, 1) := by decide +kernel
theorem dX6_defines_27 : decode cX6_defines 27 = .ok (.istore 7, 2) := by decide +kernel
theorem dX6_defines_29 : decode cX6_defines 29 = .ok (.iload 7, 2) := by decide +kernel
theorem dX6_defines_31 : decode cX6_defines 31 = .ok (.bipush 15, 2) := by decide +kernel
theorem dX6_defines_33 : decode cX6_defines 33 = .ok (.if_icmp .ge 17, 3) := by decide +kernel
theorem dX6_defines_36 : decode cX6_defines 36 = .ok (.aload_n 0, 1) := by decide +kernel
theorem dX6_defines_37 : decode cX6_defines 37 = .ok (.iload_n 1, 1) := by decide +kernel
theorem dX6_defines_38 : decode cX6_defines 38 = .ok (.iload 7, 2) := by decide +kernel
theorem dX6_defines_40 : decode cX6_defines 40 = .ok (.iconst 0, 1) := by decide +kernel
theorem dX6_defines_41 : decode cX6_defines 41 = .ok (.invokevirtual 63, 3) := by decide +kernel
theorem dX6_defines_44 : decode cX6_defines 44 = .ok (.iinc 7 1, 3) := by decide +kernel
theorem dX6_defines_47 : decode cX6_defines 47 = .ok (.goto (-18), 3) := by decide +kernel
theorem dX6_defines_50 : decode cX6_defines 50 = .ok (.aload_n 0, 1) := by decide +kernel
theorem dX6_defines_51 : decode cX6_defines 51 = .ok (.iload_n 1, 1) := by decide +kernel
theorem dX6_defines_52 : decode cX6_defines 52 = .ok (.iconst 0, 1) := by decide +kernel
theorem dX6_defines_53 : decode cX6_defines 53 = .ok (.iload_n 2, 1) := by decide +kernel
theorem dX6_defines_54 : decode cX6_defines 54 = .ok (.invokevirtual 63, 3) := by decide +kernel
theorem dX6_defines_57 : decode cX6_defines 57 = .ok (.aload_n 0, 1) := by decide +kernel
theorem dX6_defines_58 : decode cX6_defines 58 = .ok (.iload_n 1, 1) := by decide +kernel
theorem dX6_defines_59 : decode cX6_defines 59 = .ok (.iconst 1, 1) := by decide +kernel
theorem dX6_defines_60 : decode cX6_defines 60 = .ok (.iload_n 3, 1) := by decide +kernel
theorem dX6_defines_61 : decode cX6_defines 61 = .ok (.invokevirtual 63, 3) := by decide +kernel
theorem dX6_defines_64 : decode cX6_defines 64 = .ok (.aload_n 0, 1) := by decide +kernel
theorem dX6_defines_65 : decode cX6_defines 65 = .ok (.iload_n 1, 1) := by decide +kernel
theorem dX6_defines_66 : decode cX6_defines 66 = .ok (.iconst 2, 1) := by decide +kernel
theorem dX6_defines_67 : decode cX6_defines 67 = .ok (.iload 4, 2) := by decide +kernel
theorem dX6_defines_69 : decode cX6_defines 69 = .ok (.invokevirtual 63, 3) := by decide +kernel
theorem dX6_defines_72 : decode cX6_defines 72 = .ok (.aload_n 0, 1) := by decide +kernel
theorem dX6_defines_73 : decode cX6_defines 73 = .ok (.iload_n 1, 1) := by decide +kernel
theorem dX6_defines_74 : decode cX6_defines 74 = .ok (.iconst 3, 1) := by decide +kernel
theorem dX6_defines_75 : decode cX6_defines 75 = .ok (.iload 5, 2) := by decide +kernel
theorem dX6_defines_77 : decode cX6_defines 77 = .ok (.invokevirtual 63, 3) := by decide +kernel
theorem dX6_defines_80 : decode cX6_defines 80 = .ok (.aload_n 0, 1) := by decide +kernel
theorem dX6_defines_81 : decode cX6_defines 81 = .ok (.iload_n 1, 1) := by decide +kernel
theorem dX6_defines_82 : decode cX6_defines 82 = .ok (.iconst 4, 1) := by decide +kernel
theorem dX6_defines_83 : decode cX6_defines 83 = .ok (.iload 6, 2) := by decide +kernel
theorem dX6_defines_85 : decode cX6_defines 85 = .ok (.invokevirtual 63, 3) := by decide +kernel
theorem dX6_defines_88 : decode cX6_defines 88 = .ok (.aload_n 0, 1) := by decide +kernel
theorem dX6_defines_89 : decode cX6_defines 89 = .ok (.iload_n 1, 1) := by decide +kernel
theorem dX6_defines_90 : decode cX6_defines 90 = .ok (.iconst 5, 1) := by decide +kernel
theorem dX6_defines_91 : decode cX6_defines 91 = .ok (.aload_n 0, 1) := by decide +kernel
theorem dX6_defines_92 : decode cX6_defines 92 = .ok (.getfield 7, 3) := by decide +kernel
theorem dX6_defines_95 : decode cX6_defines 95 = .ok (.iconst 0, 1) := by decide +kernel
theorem dX6_defines_96 : decode cX6_defines 96 = .ok (.iaload, 1) := by decide +kernel
theorem dX6_defines_97 : decode cX6_defines 97 = .ok (.invokevirtual 63, 3) := by decide +kernel
theorem dX6_defines_100 : decode cX6_defines 100 = .ok (.aload_n 0, 1) := by decide +kernel
theorem dX6_defines_101 : decode cX6_defines 101 = .ok (.getfield 7, 3) := by decide +kernel
theorem dX6_defines_104 : decode cX6_defines 104 = .ok (.iconst 0, 1) := by decide +kernel
theorem dX6_defines_105 : decode cX6_defines 105 = .ok (.iaload, 1) := by decide +kernel
theorem dX6_defines_106 : decode cX6_defines 106 = .ok (.ireturn, 1) := by decide +kernel
theorem dX6_isValue_0 : decode cX6_isValue 0 = .ok (.iload_n 0, 1) := by decide +kernel
theorem dX6_isValue_1 : decode cX6_isValue 1 = .ok (.ldc 67, 2) := by decide +kernel
theorem dX6_isValue_3 : decode cX6_isValue 3 = .ok (.ldc 68, 2) := by decide +kernel
theorem dX6_isValue_5 : decode cX6_isValue 5 = .ok (.invokestatic 46, 3) := by decide +kernel
theorem dX6_isValue_8 : decode cX6_isValue 8 = .ok (.ireturn, 1) := by decide +kernel
theorem dX6_define_0 : decode cX6_define 0 = .ok (.iload_n 1, 1) := by decide +kernel
theorem dX6_define_1 : decode cX6_define 1 = .ok (.invokestatic 69, 3) := by decide +kernel
theorem dX6_define_4 : decode cX6_define 4 = .ok (.ifCond .eq 10, 3) := by decide +kernel
theorem dX6_define_7 : decode cX6_define 7 = .ok (.iload_n 2, 1) := by decide +kernel
theorem dX6_define_8 : decode cX6_define 8 = .ok (.invokestatic 73, 3) := by decide +kernel
theorem dX6_define_11 : decode cX6_define 11 = .ok (.ifCond .ne 6, 3) := by decide +kernel
theorem dX6_define_14 : decode cX6_define 14 = .ok (.ldc 50, 2) := by decide +kernel
theorem dX6_define_16 : decode cX6_define 16 = .ok (.ireturn, 1) := by decide +kernel
theorem dX6_define_17 : decode cX6_define 17 = .ok (.aload_n 0, 1) := by decide +kernel
theorem dX6_define_18 : decode cX6_define 18 = .ok (.invokevirtual 76, 3) := by decide +kernel
theorem dX6_define_21 : decode cX6_define 21 = .ok (.aload_n 0, 1) := by decide +kernel
theorem dX6_define_22 : decode cX6_define 22 = .ok (.aload_n 0, 1) := by decide +kernel
theorem dX6_define_23 : decode cX6_define 23 = .ok (.iload_n 1, 1) := by decide +kernel
theorem dX6_define_24 : decode cX6_define 24 = .ok (.iconst 0, 1) := by decide +kernel
theorem dX6_define_25 : decode cX6_define 25 = .ok (.iload_n 2, 1) := by decide +kernel
theorem dX6_define_26 : decode cX6_define 26 = .ok (.iconst 0, 1) := by decide +kernel
theorem dX6_define_27 : decode cX6_define 27 = .ok (.iconst 0, 1) := by decide +kernel
theorem dX6_define_28 : decode cX6_define 28 = .ok (.iconst 0, 1) := by decide +kernel
theorem dX6_define_29 : decode cX6_define 29 = .ok (.invokevirtual 79, 3) := by decide +kernel
theorem dX6_define_32 : decode cX6_define 32 = .ok (.invokevirtual 83, 3) := by decide +kernel
theorem dX6_define_35 : decode cX6_define 35 = .ok (.ireturn, 1) := by decide +kernel
theorem dX6_formula_0 : decode cX6_formula 0 = .ok (.iload_n 1, 1) := by decide +kernel
theorem dX6_formula_1 : decode cX6_formula 1 = .ok (.invokestatic 69, 3) := by decide +kernel
theorem dX6_formula_4 : decode cX6_formula 4 = .ok (.ifCond .eq 47, 3) := by decide +kernel
theorem dX6_formula_7 : decode cX6_formula 7 = .ok (.iload_n 2, 1) := by decide +kernel
theorem dX6_formula_8 : decode cX6_formula 8 = .ok (.iconst 0, 1) := by decide +kernel
theorem dX6_formula_9 : decode cX6_formula 9 = .ok (.iconst 4, 1) := by decide +kernel
theorem dX6_formula_10 : decode cX6_formula 10 = .ok (.invokestatic 46, 3) := by decide +kernel
theorem dX6_formula_13 : decode cX6_formula 13 = .ok (.ifCond .eq 38, 3) := by decide +kernel
theorem dX6_formula_16 : decode cX6_formula 16 = .ok (.iload_n 3, 1) := by decide +kernel
theorem dX6_formula_17 : decode cX6_formula 17 = .ok (.invokestatic 69, 3) := by decide +kernel
theorem dX6_formula_20 : decode cX6_formula 20 = .ok (.ifCond .eq 31, 3) := by decide +kernel
theorem dX6_formula_23 : decode cX6_formula 23 = .ok (.iload 4, 2) := by decide +kernel
theorem dX6_formula_25 : decode cX6_formula 25 = .ok (.invokestatic 69, 3) := by decide +kernel
theorem dX6_formula_28 : decode cX6_formula 28 = .ok (.ifCond .eq 23, 3) := by decide +kernel
theorem dX6_formula_31 : decode cX6_formula 31 = .ok (.iload 5, 2) := by decide +kernel
theorem dX6_formula_33 : decode cX6_formula 33 = .ok (.iconst 0, 1) := by decide +kernel
theorem dX6_formula_34 : decode cX6_formula 34 = .ok (.iload_n 2, 1) := by decide +kernel
theorem dX6_formula_35 : decode cX6_formula 35 = .ok (.iconst 4, 1) := by decide +kernel
theorem dX6_formula_36 : decode cX6_formula 36 = .ok (.if_icmp .ne 8, 3) := by decide +kernel
theorem dX6_formula_39 : decode cX6_formula 39 = .ok (.bipush 9, 2) := by decide +kernel
theorem dX6_formula_41 : decode cX6_formula 41 = .ok (.goto 4, 3) := by decide +kernel
theorem dX6_formula_44 : decode cX6_formula 44 = .ok (.iconst 0, 1) := by decide +kernel
theorem dX6_formula_45 : decode cX6_formula 45 = .ok (.invokestatic 46, 3) := by decide +kernel
theorem dX6_formula_48 : decode cX6_formula 48 = .ok (.ifCond .ne 6, 3) := by decide +kernel
theorem dX6_formula_51 : decode cX6_formula 51 = .ok (.ldc 50, 2) := by decide +kernel
theorem dX6_formula_53 : decode cX6_formula 53 = .ok (.ireturn, 1) := by decide +kernel
theorem dX6_formula_54 : decode cX6_formula 54 = .ok (.aload_n 0, 1) := by decide +kernel
theorem dX6_formula_55 : decode cX6_formula 55 = .ok (.invokevirtual 76, 3) := by decide +kernel
theorem dX6_formula_58 : decode cX6_formula 58 = .ok (.aload_n 0, 1) := by decide +kernel
theorem dX6_formula_59 : decode cX6_formula 59 = .ok (.aload_n 0, 1) := by decide +kernel
theorem dX6_formula_60 : decode cX6_formula 60 = .ok (.iload_n 1, 1) := by decide +kernel
theorem dX6_formula_61 : decode cX6_formula 61 = .ok (.iload_n 2, 1) := by decide +kernel
theorem dX6_formula_62 : decode cX6_formula 62 = .ok (.iconst 1, 1) := by decide +kernel
theorem dX6_formula_63 : decode cX6_formula 63 = .ok (.iadd, 1) := by decide +kernel
theorem dX6_formula_64 : decode cX6_formula 64 = .ok (.iconst 0, 1) := by decide +kernel
theorem dX6_formula_65 : decode cX6_formula 65 = .ok (.iload_n 3, 1) := by decide +kernel
theorem dX6_formula_66 : decode cX6_formula 66 = .ok (.iload 4, 2) := by decide +kernel
theorem dX6_formula_68 : decode cX6_formula 68 = .ok (.iload 5, 2) := by decide +kernel
theorem dX6_formula_70 : decode cX6_formula 70 = .ok (.invokevirtual 79, 3) := by decide +kernel
theorem dX6_formula_73 : decode cX6_formula 73 = .ok (.invokevirtual 83, 3) := by decide +kernel
theorem dX6_formula_76 : decode cX6_formula 76 = .ok (.ireturn, 1) := by decide +kernel
theorem dX6_cellOf_0 : decode cX6_cellOf 0 = .ok (.iload_n 1, 1) := by decide +kernel
theorem dX6_cellOf_1 : decode cX6_cellOf 1 = .ok (.invokestatic 69, 3) := by decide +kernel
theorem dX6_cellOf_4 : decode cX6_cellOf 4 = .ok (.ifCond .eq 12, 3) := by decide +kernel
theorem dX6_cellOf_7 : decode cX6_cellOf 7 = .ok (.iload_n 2, 1) := by decide +kernel
theorem dX6_cellOf_8 : decode cX6_cellOf 8 = .ok (.iconst 0, 1) := by decide +kernel
theorem dX6_cellOf_9 : decode cX6_cellOf 9 = .ok (.iconst 4, 1) := by decide +kernel
theorem dX6_cellOf_10 : decode cX6_cellOf 10 = .ok (.invokestatic 46, 3) := by decide +kernel
theorem dX6_cellOf_13 : decode cX6_cellOf 13 = .ok (.ifCond .ne 6, 3) := by decide +kernel
theorem dX6_cellOf_16 : decode cX6_cellOf 16 = .ok (.ldc 50, 2) := by decide +kernel
theorem dX6_cellOf_18 : decode cX6_cellOf 18 = .ok (.ireturn, 1) := by decide +kernel
theorem dX6_cellOf_19 : decode cX6_cellOf 19 = .ok (.iload_n 2, 1) := by decide +kernel
theorem dX6_cellOf_20 : decode cX6_cellOf 20 = .ok (.ifCond .eq 45, 3) := by decide +kernel
theorem dX6_cellOf_23 : decode cX6_cellOf 23 = .ok (.iload_n 2, 1) := by decide +kernel
theorem dX6_cellOf_24 : decode cX6_cellOf 24 = .ok (.iconst 1, 1) := by decide +kernel
theorem dX6_cellOf_25 : decode cX6_cellOf 25 = .ok (.if_icmp .ne 7, 3) := by decide +kernel
theorem dX6_cellOf_28 : decode cX6_cellOf 28 = .ok (.iconst 1, 1) := by decide +kernel
theorem dX6_cellOf_29 : decode cX6_cellOf 29 = .ok (.goto 4, 3) := by decide +kernel
theorem dX6_cellOf_32 : decode cX6_cellOf 32 = .ok (.iconst 0, 1) := by decide +kernel
theorem dX6_cellOf_33 : decode cX6_cellOf 33 = .ok (.aload_n 0, 1) := by decide +kernel
theorem dX6_cellOf_34 : decode cX6_cellOf 34 = .ok (.iload_n 1, 1) := by decide +kernel
theorem dX6_cellOf_35 : decode cX6_cellOf 35 = .ok (.iconst 0, 1) := by decide +kernel
theorem dX6_cellOf_36 : decode cX6_cellOf 36 = .ok (.invokevirtual 55, 3) := by decide +kernel
theorem dX6_cellOf_39 : decode cX6_cellOf 39 = .ok (.ifCond .ne 7, 3) := by decide +kernel
theorem dX6_cellOf_42 : decode cX6_cellOf 42 = .ok (.iconst 1, 1) := by decide +kernel
theorem dX6_cellOf_43 : decode cX6_cellOf 43 = .ok (.goto 4, 3) := by decide +kernel
theorem dX6_cellOf_46 : decode cX6_cellOf 46 = .ok (.iconst 0, 1) := by decide +kernel
theorem dX6_cellOf_47 : decode cX6_cellOf 47 = .ok (.if_icmp .ne 22, 3) := by decide +kernel
theorem dX6_cellOf_50 : decode cX6_cellOf 50 = .ok (.iload_n 2, 1) := by decide +kernel
theorem dX6_cellOf_51 : decode cX6_cellOf 51 = .ok (.iconst 4, 1) := by decide +kernel
theorem dX6_cellOf_52 : decode cX6_cellOf 52 = .ok (.if_icmp .lt 13, 3) := by decide +kernel
theorem dX6_cellOf_55 : decode cX6_cellOf 55 = .ok (.aload_n 0, 1) := by decide +kernel
theorem dX6_cellOf_56 : decode cX6_cellOf 56 = .ok (.iload_n 1, 1) := by decide +kernel
theorem dX6_cellOf_57 : decode cX6_cellOf 57 = .ok (.iconst 0, 1) := by decide +kernel
theorem dX6_cellOf_58 : decode cX6_cellOf 58 = .ok (.invokevirtual 55, 3) := by decide +kernel
theorem dX6_cellOf_61 : decode cX6_cellOf 61 = .ok (.iconst 5, 1) := by decide +kernel
theorem dX6_cellOf_62 : decode cX6_cellOf 62 = .ok (.if_icmp .ne 7, 3) := by decide +kernel
theorem dX6_cellOf_65 : decode cX6_cellOf 65 = .ok (.iconst 1, 1) := by decide +kernel
theorem dX6_cellOf_66 : decode cX6_cellOf 66 = .ok (.goto 4, 3) := by decide +kernel
theorem dX6_cellOf_69 : decode cX6_cellOf 69 = .ok (.iconst 0, 1) := by decide +kernel
theorem dX6_cellOf_70 : decode cX6_cellOf 70 = .ok (.istore_n 3, 1) := by decide +kernel
theorem dX6_cellOf_71 : decode cX6_cellOf 71 = .ok (.iload_n 3, 1) := by decide +kernel
theorem dX6_cellOf_72 : decode cX6_cellOf 72 = .ok (.ifCond .eq 12, 3) := by decide +kernel
theorem dX6_cellOf_75 : decode cX6_cellOf 75 = .ok (.aload_n 0, 1) := by decide +kernel
theorem dX6_cellOf_76 : decode cX6_cellOf 76 = .ok (.iload_n 1, 1) := by decide +kernel
theorem dX6_cellOf_77 : decode cX6_cellOf 77 = .ok (.iload_n 2, 1) := by decide +kernel
theorem dX6_cellOf_78 : decode cX6_cellOf 78 = .ok (.invokevirtual 55, 3) := by decide +kernel
theorem dX6_cellOf_81 : decode cX6_cellOf 81 = .ok (.goto 5, 3) := by decide +kernel
theorem dX6_cellOf_84 : decode cX6_cellOf 84 = .ok (.ldc 87, 2) := by decide +kernel
theorem dX6_cellOf_86 : decode cX6_cellOf 86 = .ok (.ireturn, 1) := by decide +kernel
theorem dX6_uses_0 : decode cX6_uses 0 = .ok (.aload_n 0, 1) := by decide +kernel
theorem dX6_uses_1 : decode cX6_uses 1 = .ok (.getfield 7, 3) := by decide +kernel
theorem dX6_uses_4 : decode cX6_uses 4 = .ok (.bipush 7, 2) := by decide +kernel
theorem dX6_uses_6 : decode cX6_uses 6 = .ok (.dup2, 1) := by decide +kernel
theorem dX6_uses_7 : decode cX6_uses 7 = .ok (.iaload, 1) := by decide +kernel
theorem dX6_uses_8 : decode cX6_uses 8 = .ok (.iconst 1, 1) := by decide +kernel
theorem dX6_uses_9 : decode cX6_uses 9 = .ok (.iadd, 1) := by decide +kernel
theorem dX6_uses_10 : decode cX6_uses 10 = .ok (.iastore, 1) := by decide +kernel
theorem dX6_uses_11 : decode cX6_uses 11 = .ok (.aload_n 0, 1) := by decide +kernel
theorem dX6_uses_12 : decode cX6_uses 12 = .ok (.iload_n 1, 1) := by decide +kernel
theorem dX6_uses_13 : decode cX6_uses 13 = .ok (.bipush 13, 2) := by decide +kernel
theorem dX6_uses_15 : decode cX6_uses 15 = .ok (.aload_n 0, 1) := by decide +kernel
theorem dX6_uses_16 : decode cX6_uses 16 = .ok (.getfield 7, 3) := by decide +kernel
theorem dX6_uses_19 : decode cX6_uses 19 = .ok (.bipush 7, 2) := by decide +kernel
theorem dX6_uses_21 : decode cX6_uses 21 = .ok (.iaload, 1) := by decide +kernel
theorem dX6_uses_22 : decode cX6_uses 22 = .ok (.invokevirtual 63, 3) := by decide +kernel
theorem dX6_uses_25 : decode cX6_uses 25 = .ok (.return_, 1) := by decide +kernel
theorem dX6_isOpen_0 : decode cX6_isOpen 0 = .ok (.iconst 0, 1) := by decide +kernel
theorem dX6_isOpen_1 : decode cX6_isOpen 1 = .ok (.istore_n 2, 1) := by decide +kernel
theorem dX6_isOpen_2 : decode cX6_isOpen 2 = .ok (.iconst 0, 1) := by decide +kernel
theorem dX6_isOpen_3 : decode cX6_isOpen 3 = .ok (.istore_n 3, 1) := by decide +kernel
theorem dX6_isOpen_4 : decode cX6_isOpen 4 = .ok (.iload_n 3, 1) := by decide +kernel
theorem dX6_isOpen_5 : decode cX6_isOpen 5 = .ok (.aload_n 0, 1) := by decide +kernel
theorem dX6_isOpen_6 : decode cX6_isOpen 6 = .ok (.getfield 88, 3) := by decide +kernel
theorem dX6_isOpen_9 : decode cX6_isOpen 9 = .ok (.if_icmp .ge 29, 3) := by decide +kernel
theorem dX6_isOpen_12 : decode cX6_isOpen 12 = .ok (.iload_n 2, 1) := by decide +kernel
theorem dX6_isOpen_13 : decode cX6_isOpen 13 = .ok (.ifCond .ne 13, 3) := by decide +kernel
theorem dX6_isOpen_16 : decode cX6_isOpen 16 = .ok (.aload_n 0, 1) := by decide +kernel
theorem dX6_isOpen_17 : decode cX6_isOpen 17 = .ok (.getfield 22, 3) := by decide +kernel
theorem dX6_isOpen_20 : decode cX6_isOpen 20 = .ok (.iload_n 3, 1) := by decide +kernel
theorem dX6_isOpen_21 : decode cX6_isOpen 21 = .ok (.iaload, 1) := by decide +kernel
theorem dX6_isOpen_22 : decode cX6_isOpen 22 = .ok (.iload_n 1, 1) := by decide +kernel
theorem dX6_isOpen_23 : decode cX6_isOpen 23 = .ok (.if_icmp .ne 7, 3) := by decide +kernel
theorem dX6_isOpen_26 : decode cX6_isOpen 26 = .ok (.iconst 1, 1) := by decide +kernel
theorem dX6_isOpen_27 : decode cX6_isOpen 27 = .ok (.goto 4, 3) := by decide +kernel
theorem dX6_isOpen_30 : decode cX6_isOpen 30 = .ok (.iconst 0, 1) := by decide +kernel
theorem dX6_isOpen_31 : decode cX6_isOpen 31 = .ok (.istore_n 2, 1) := by decide +kernel
theorem dX6_isOpen_32 : decode cX6_isOpen 32 = .ok (.iinc 3 1, 3) := by decide +kernel
theorem dX6_isOpen_35 : decode cX6_isOpen 35 = .ok (.goto (-31), 3) := by decide +kernel
theorem dX6_isOpen_38 : decode cX6_isOpen 38 = .ok (.iload_n 2, 1) := by decide +kernel
theorem dX6_isOpen_39 : decode cX6_isOpen 39 = .ok (.ireturn, 1) := by decide +kernel
theorem dX6_enters_0 : decode cX6_enters 0 = .ok (.aload_n 0, 1) := by decide +kernel
theorem dX6_enters_1 : decode cX6_enters 1 = .ok (.iload_n 1, 1) := by decide +kernel
theorem dX6_enters_2 : decode cX6_enters 2 = .ok (.iconst 0, 1) := by decide +kernel
theorem dX6_enters_3 : decode cX6_enters 3 = .ok (.invokevirtual 55, 3) := by decide +kernel
theorem dX6_enters_6 : decode cX6_enters 6 = .ok (.ifCond .ne 4, 3) := by decide +kernel
theorem dX6_enters_9 : decode cX6_enters 9 = .ok (.return_, 1) := by decide +kernel
theorem dX6_enters_10 : decode cX6_enters 10 = .ok (.aload_n 0, 1) := by decide +kernel
theorem dX6_enters_11 : decode cX6_enters 11 = .ok (.iload_n 1, 1) := by decide +kernel
theorem dX6_enters_12 : decode cX6_enters 12 = .ok (.bipush 6, 2) := by decide +kernel
theorem dX6_enters_14 : decode cX6_enters 14 = .ok (.invokevirtual 55, 3) := by decide +kernel
theorem dX6_enters_17 : decode cX6_enters 17 = .ok (.iconst 1, 1) := by decide +kernel
theorem dX6_enters_18 : decode cX6_enters 18 = .ok (.if_icmp .ne 35, 3) := by decide +kernel
theorem dX6_enters_21 : decode cX6_enters 21 = .ok (.aload_n 0, 1) := by decide +kernel
theorem dX6_enters_22 : decode cX6_enters 22 = .ok (.iload_n 1, 1) := by decide +kernel
theorem dX6_enters_23 : decode cX6_enters 23 = .ok (.bipush 9, 2) := by decide +kernel
theorem dX6_enters_25 : decode cX6_enters 25 = .ok (.invokevirtual 55, 3) := by decide +kernel
theorem dX6_enters_28 : decode cX6_enters 28 = .ok (.aload_n 0, 1) := by decide +kernel
theorem dX6_enters_29 : decode cX6_enters 29 = .ok (.getfield 7, 3) := by decide +kernel
theorem dX6_enters_32 : decode cX6_enters 32 = .ok (.iconst 0, 1) := by decide +kernel
theorem dX6_enters_33 : decode cX6_enters 33 = .ok (.iaload, 1) := by decide +kernel
theorem dX6_enters_34 : decode cX6_enters 34 = .ok (.if_icmp .ne 19, 3) := by decide +kernel
theorem dX6_enters_37 : decode cX6_enters 37 = .ok (.aload_n 0, 1) := by decide +kernel
theorem dX6_enters_38 : decode cX6_enters 38 = .ok (.getfield 7, 3) := by decide +kernel
theorem dX6_enters_41 : decode cX6_enters 41 = .ok (.iconst 3, 1) := by decide +kernel
theorem dX6_enters_42 : decode cX6_enters 42 = .ok (.dup2, 1) := by decide +kernel
theorem dX6_enters_43 : decode cX6_enters 43 = .ok (.iaload, 1) := by decide +kernel
theorem dX6_enters_44 : decode cX6_enters 44 = .ok (.iconst 1, 1) := by decide +kernel
theorem dX6_enters_45 : decode cX6_enters 45 = .ok (.iadd, 1) := by decide +kernel
theorem dX6_enters_46 : decode cX6_enters 46 = .ok (.iastore, 1) := by decide +kernel
theorem dX6_enters_47 : decode cX6_enters 47 = .ok (.aload_n 0, 1) := by decide +kernel
theorem dX6_enters_48 : decode cX6_enters 48 = .ok (.iload_n 1, 1) := by decide +kernel
theorem dX6_enters_49 : decode cX6_enters 49 = .ok (.invokevirtual 91, 3) := by decide +kernel
theorem dX6_enters_52 : decode cX6_enters 52 = .ok (.return_, 1) := by decide +kernel
theorem dX6_enters_53 : decode cX6_enters 53 = .ok (.aload_n 0, 1) := by decide +kernel
theorem dX6_enters_54 : decode cX6_enters 54 = .ok (.iload_n 1, 1) := by decide +kernel
theorem dX6_enters_55 : decode cX6_enters 55 = .ok (.invokevirtual 95, 3) := by decide +kernel
theorem dX6_enters_58 : decode cX6_enters 58 = .ok (.ifCond .eq 9, 3) := by decide +kernel
theorem dX6_enters_61 : decode cX6_enters 61 = .ok (.aload_n 0, 1) := by decide +kernel
theorem dX6_enters_62 : decode cX6_enters 62 = .ok (.iconst 1, 1) := by decide +kernel
theorem dX6_enters_63 : decode cX6_enters 63 = .ok (.putfield 98, 3) := by decide +kernel
theorem dX6_enters_66 : decode cX6_enters 66 = .ok (.return_, 1) := by decide +kernel
theorem dX6_enters_67 : decode cX6_enters 67 = .ok (.aload_n 0, 1) := by decide +kernel
theorem dX6_enters_68 : decode cX6_enters 68 = .ok (.getfield 22, 3) := by decide +kernel
theorem dX6_enters_71 : decode cX6_enters 71 = .ok (.aload_n 0, 1) := by decide +kernel
theorem dX6_enters_72 : decode cX6_enters 72 = .ok (.getfield 88, 3) := by decide +kernel
theorem dX6_enters_75 : decode cX6_enters 75 = .ok (.iload_n 1, 1) := by decide +kernel
theorem dX6_enters_76 : decode cX6_enters 76 = .ok (.iastore, 1) := by decide +kernel
theorem dX6_enters_77 : decode cX6_enters 77 = .ok (.aload_n 0, 1) := by decide +kernel
theorem dX6_enters_78 : decode cX6_enters 78 = .ok (.getfield 25, 3) := by decide +kernel
theorem dX6_enters_81 : decode cX6_enters 81 = .ok (.aload_n 0, 1) := by decide +kernel
theorem dX6_enters_82 : decode cX6_enters 82 = .ok (.getfield 88, 3) := by decide +kernel
theorem dX6_enters_85 : decode cX6_enters 85 = .ok (.aload_n 0, 1) := by decide +kernel
theorem dX6_enters_86 : decode cX6_enters 86 = .ok (.iload_n 1, 1) := by decide +kernel
theorem dX6_enters_87 : decode cX6_enters 87 = .ok (.bipush 6, 2) := by decide +kernel
theorem dX6_enters_89 : decode cX6_enters 89 = .ok (.invokevirtual 55, 3) := by decide +kernel
theorem dX6_enters_92 : decode cX6_enters 92 = .ok (.iconst 1, 1) := by decide +kernel
theorem dX6_enters_93 : decode cX6_enters 93 = .ok (.if_icmp .ne 7, 3) := by decide +kernel
theorem dX6_enters_96 : decode cX6_enters 96 = .ok (.iconst 0, 1) := by decide +kernel
theorem dX6_enters_97 : decode cX6_enters 97 = .ok (.goto 4, 3) := by decide +kernel
theorem dX6_enters_100 : decode cX6_enters 100 = .ok (.iconst 1, 1) := by decide +kernel
theorem dX6_enters_101 : decode cX6_enters 101 = .ok (.iastore, 1) := by decide +kernel
theorem dX6_enters_102 : decode cX6_enters 102 = .ok (.aload_n 0, 1) := by decide +kernel
theorem dX6_enters_103 : decode cX6_enters 103 = .ok (.getfield 28, 3) := by decide +kernel
theorem dX6_enters_106 : decode cX6_enters 106 = .ok (.aload_n 0, 1) := by decide +kernel
theorem dX6_enters_107 : decode cX6_enters 107 = .ok (.getfield 88, 3) := by decide +kernel
theorem dX6_enters_110 : decode cX6_enters 110 = .ok (.iconst 0, 1) := by decide +kernel
theorem dX6_enters_111 : decode cX6_enters 111 = .ok (.iastore, 1) := by decide +kernel
theorem dX6_enters_112 : decode cX6_enters 112 = .ok (.aload_n 0, 1) := by decide +kernel
theorem dX6_enters_113 : decode cX6_enters 113 = .ok (.dup, 1) := by decide +kernel
theorem dX6_enters_114 : decode cX6_enters 114 = .ok (.getfield 88, 3) := by decide +kernel
theorem dX6_enters_117 : decode cX6_enters 117 = .ok (.iconst 1, 1) := by decide +kernel
theorem dX6_enters_118 : decode cX6_enters 118 = .ok (.iadd, 1) := by decide +kernel
theorem dX6_enters_119 : decode cX6_enters 119 = .ok (.putfield 88, 3) := by decide +kernel
theorem dX6_enters_122 : decode cX6_enters 122 = .ok (.return_, 1) := by decide +kernel
theorem dX6_changedAt_0 : decode cX6_changedAt 0 = .ok (.aload_n 0, 1) := by decide +kernel
theorem dX6_changedAt_1 : decode cX6_changedAt 1 = .ok (.iload_n 1, 1) := by decide +kernel
theorem dX6_changedAt_2 : decode cX6_changedAt 2 = .ok (.iconst 0, 1) := by decide +kernel
theorem dX6_changedAt_3 : decode cX6_changedAt 3 = .ok (.invokevirtual 55, 3) := by decide +kernel
theorem dX6_changedAt_6 : decode cX6_changedAt 6 = .ok (.ifCond .ne 12, 3) := by decide +kernel
theorem dX6_changedAt_9 : decode cX6_changedAt 9 = .ok (.aload_n 0, 1) := by decide +kernel
theorem dX6_changedAt_10 : decode cX6_changedAt 10 = .ok (.iload_n 1, 1) := by decide +kernel
theorem dX6_changedAt_11 : decode cX6_changedAt 11 = .ok (.iconst 5, 1) := by decide +kernel
theorem dX6_changedAt_12 : decode cX6_changedAt 12 = .ok (.invokevirtual 55, 3) := by decide +kernel
theorem dX6_changedAt_15 : decode cX6_changedAt 15 = .ok (.goto 10, 3) := by decide +kernel
theorem dX6_changedAt_18 : decode cX6_changedAt 18 = .ok (.aload_n 0, 1) := by decide +kernel
theorem dX6_changedAt_19 : decode cX6_changedAt 19 = .ok (.iload_n 1, 1) := by decide +kernel
theorem dX6_changedAt_20 : decode cX6_changedAt 20 = .ok (.bipush 8, 2) := by decide +kernel
theorem dX6_changedAt_22 : decode cX6_changedAt 22 = .ok (.invokevirtual 55, 3) := by decide +kernel
theorem dX6_changedAt_25 : decode cX6_changedAt 25 = .ok (.ireturn, 1) := by decide +kernel
theorem dX6_answerOf_0 : decode cX6_answerOf 0 = .ok (.aload_n 0, 1) := by decide +kernel
theorem dX6_answerOf_1 : decode cX6_answerOf 1 = .ok (.iload_n 1, 1) := by decide +kernel
theorem dX6_answerOf_2 : decode cX6_answerOf 2 = .ok (.iconst 0, 1) := by decide +kernel
theorem dX6_answerOf_3 : decode cX6_answerOf 3 = .ok (.invokevirtual 55, 3) := by decide +kernel
theorem dX6_answerOf_6 : decode cX6_answerOf 6 = .ok (.ifCond .ne 12, 3) := by decide +kernel
theorem dX6_answerOf_9 : decode cX6_answerOf 9 = .ok (.aload_n 0, 1) := by decide +kernel
theorem dX6_answerOf_10 : decode cX6_answerOf 10 = .ok (.iload_n 1, 1) := by decide +kernel
theorem dX6_answerOf_11 : decode cX6_answerOf 11 = .ok (.iconst 1, 1) := by decide +kernel
theorem dX6_answerOf_12 : decode cX6_answerOf 12 = .ok (.invokevirtual 55, 3) := by decide +kernel
theorem dX6_answerOf_15 : decode cX6_answerOf 15 = .ok (.goto 10, 3) := by decide +kernel
theorem dX6_answerOf_18 : decode cX6_answerOf 18 = .ok (.aload_n 0, 1) := by decide +kernel
theorem dX6_answerOf_19 : decode cX6_answerOf 19 = .ok (.iload_n 1, 1) := by decide +kernel
theorem dX6_answerOf_20 : decode cX6_answerOf 20 = .ok (.bipush 7, 2) := by decide +kernel
theorem dX6_answerOf_22 : decode cX6_answerOf 22 = .ok (.invokevirtual 55, 3) := by decide +kernel
theorem dX6_answerOf_25 : decode cX6_answerOf 25 = .ok (.ireturn, 1) := by decide +kernel
theorem dX6_bounded_0 : decode cX6_bounded 0 = .ok (.lload_n 0, 1) := by decide +kernel
theorem dX6_bounded_1 : decode cX6_bounded 1 = .ok (.ldc2_w 102, 3) := by decide +kernel
theorem dX6_bounded_4 : decode cX6_bounded 4 = .ok (.lcmp, 1) := by decide +kernel
theorem dX6_bounded_5 : decode cX6_bounded 5 = .ok (.ifCond .lt 11, 3) := by decide +kernel
theorem dX6_bounded_8 : decode cX6_bounded 8 = .ok (.lload_n 0, 1) := by decide +kernel
theorem dX6_bounded_9 : decode cX6_bounded 9 = .ok (.ldc2_w 104, 3) := by decide +kernel
theorem dX6_bounded_12 : decode cX6_bounded 12 = .ok (.lcmp, 1) := by decide +kernel
theorem dX6_bounded_13 : decode cX6_bounded 13 = .ok (.ifCond .le 8, 3) := by decide +kernel
theorem dX6_bounded_16 : decode cX6_bounded 16 = .ok (.ldc 106, 2) := by decide +kernel
theorem dX6_bounded_18 : decode cX6_bounded 18 = .ok (.goto 5, 3) := by decide +kernel
theorem dX6_bounded_21 : decode cX6_bounded 21 = .ok (.lload_n 0, 1) := by decide +kernel
theorem dX6_bounded_22 : decode cX6_bounded 22 = .ok (.l2i, 1) := by decide +kernel
theorem dX6_bounded_23 : decode cX6_bounded 23 = .ok (.ireturn, 1) := by decide +kernel
theorem dX6_made_0 : decode cX6_made 0 = .ok (.iload_n 1, 1) := by decide +kernel
theorem dX6_made_1 : decode cX6_made 1 = .ok (.ldc 106, 2) := by decide +kernel
theorem dX6_made_3 : decode cX6_made 3 = .ok (.if_icmp .eq 9, 3) := by decide +kernel
theorem dX6_made_6 : decode cX6_made 6 = .ok (.iload_n 2, 1) := by decide +kernel
theorem dX6_made_7 : decode cX6_made 7 = .ok (.ldc 106, 2) := by decide +kernel
theorem dX6_made_9 : decode cX6_made 9 = .ok (.if_icmp .ne 6, 3) := by decide +kernel
theorem dX6_made_12 : decode cX6_made 12 = .ok (.ldc 106, 2) := by decide +kernel
theorem dX6_made_14 : decode cX6_made 14 = .ok (.ireturn, 1) := by decide +kernel
theorem dX6_made_15 : decode cX6_made 15 = .ok (.iload_n 0, 1) := by decide +kernel
theorem dX6_made_16 : decode cX6_made 16 = .ok (.tableswitch 70 1 4 #[32, 41, 50, 59], 32) := by decide +kernel
theorem dX6_made_48 : decode cX6_made 48 = .ok (.iload_n 1, 1) := by decide +kernel
theorem dX6_made_49 : decode cX6_made 49 = .ok (.i2l, 1) := by decide +kernel
theorem dX6_made_50 : decode cX6_made 50 = .ok (.iload_n 2, 1) := by decide +kernel
theorem dX6_made_51 : decode cX6_made 51 = .ok (.i2l, 1) := by decide +kernel
theorem dX6_made_52 : decode cX6_made 52 = .ok (.ladd, 1) := by decide +kernel
theorem dX6_made_53 : decode cX6_made 53 = .ok (.invokestatic 107, 3) := by decide +kernel
theorem dX6_made_56 : decode cX6_made 56 = .ok (.ireturn, 1) := by decide +kernel
theorem dX6_made_57 : decode cX6_made 57 = .ok (.iload_n 1, 1) := by decide +kernel
theorem dX6_made_58 : decode cX6_made 58 = .ok (.i2l, 1) := by decide +kernel
theorem dX6_made_59 : decode cX6_made 59 = .ok (.iload_n 2, 1) := by decide +kernel
theorem dX6_made_60 : decode cX6_made 60 = .ok (.i2l, 1) := by decide +kernel
theorem dX6_made_61 : decode cX6_made 61 = .ok (.lsub, 1) := by decide +kernel
theorem dX6_made_62 : decode cX6_made 62 = .ok (.invokestatic 107, 3) := by decide +kernel
theorem dX6_made_65 : decode cX6_made 65 = .ok (.ireturn, 1) := by decide +kernel
theorem dX6_made_66 : decode cX6_made 66 = .ok (.iload_n 1, 1) := by decide +kernel
theorem dX6_made_67 : decode cX6_made 67 = .ok (.i2l, 1) := by decide +kernel
theorem dX6_made_68 : decode cX6_made 68 = .ok (.iload_n 2, 1) := by decide +kernel
theorem dX6_made_69 : decode cX6_made 69 = .ok (.i2l, 1) := by decide +kernel
theorem dX6_made_70 : decode cX6_made 70 = .ok (.lmul, 1) := by decide +kernel
theorem dX6_made_71 : decode cX6_made 71 = .ok (.invokestatic 107, 3) := by decide +kernel
theorem dX6_made_74 : decode cX6_made 74 = .ok (.ireturn, 1) := by decide +kernel
theorem dX6_made_75 : decode cX6_made 75 = .ok (.iload_n 1, 1) := by decide +kernel
theorem dX6_made_76 : decode cX6_made 76 = .ok (.iload_n 2, 1) := by decide +kernel
theorem dX6_made_77 : decode cX6_made 77 = .ok (.if_icmp .le 7, 3) := by decide +kernel
theorem dX6_made_80 : decode cX6_made 80 = .ok (.iload_n 1, 1) := by decide +kernel
theorem dX6_made_81 : decode cX6_made 81 = .ok (.goto 4, 3) := by decide +kernel
theorem dX6_made_84 : decode cX6_made 84 = .ok (.iload_n 2, 1) := by decide +kernel
theorem dX6_made_85 : decode cX6_made 85 = .ok (.ireturn, 1) := by decide +kernel
theorem dX6_made_86 : decode cX6_made 86 = .ok (.iload_n 2, 1) := by decide +kernel
theorem dX6_made_87 : decode cX6_made 87 = .ok (.ireturn, 1) := by decide +kernel
theorem dX6_checks_0 : decode cX6_checks 0 = .ok (.aload_n 0, 1) := by decide +kernel
theorem dX6_checks_1 : decode cX6_checks 1 = .ok (.getfield 22, 3) := by decide +kernel
theorem dX6_checks_4 : decode cX6_checks 4 = .ok (.iload_n 1, 1) := by decide +kernel
theorem dX6_checks_5 : decode cX6_checks 5 = .ok (.iaload, 1) := by decide +kernel
theorem dX6_checks_6 : decode cX6_checks 6 = .ok (.istore_n 2, 1) := by decide +kernel
theorem dX6_checks_7 : decode cX6_checks 7 = .ok (.aload_n 0, 1) := by decide +kernel
theorem dX6_checks_8 : decode cX6_checks 8 = .ok (.getfield 28, 3) := by decide +kernel
theorem dX6_checks_11 : decode cX6_checks 11 = .ok (.iload_n 1, 1) := by decide +kernel
theorem dX6_checks_12 : decode cX6_checks 12 = .ok (.iaload, 1) := by decide +kernel
theorem dX6_checks_13 : decode cX6_checks 13 = .ok (.istore_n 3, 1) := by decide +kernel
theorem dX6_checks_14 : decode cX6_checks 14 = .ok (.iload_n 3, 1) := by decide +kernel
theorem dX6_checks_15 : decode cX6_checks 15 = .ok (.ifCond .le 45, 3) := by decide +kernel
theorem dX6_checks_18 : decode cX6_checks 18 = .ok (.aload_n 0, 1) := by decide +kernel
theorem dX6_checks_19 : decode cX6_checks 19 = .ok (.aload_n 0, 1) := by decide +kernel
theorem dX6_checks_20 : decode cX6_checks 20 = .ok (.iload_n 2, 1) := by decide +kernel
theorem dX6_checks_21 : decode cX6_checks 21 = .ok (.bipush 11, 2) := by decide +kernel
theorem dX6_checks_23 : decode cX6_checks 23 = .ok (.iload_n 3, 1) := by decide +kernel
theorem dX6_checks_24 : decode cX6_checks 24 = .ok (.iadd, 1) := by decide +kernel
theorem dX6_checks_25 : decode cX6_checks 25 = .ok (.iconst 1, 1) := by decide +kernel
theorem dX6_checks_26 : decode cX6_checks 26 = .ok (.isub, 1) := by decide +kernel
theorem dX6_checks_27 : decode cX6_checks 27 = .ok (.invokevirtual 55, 3) := by decide +kernel
theorem dX6_checks_30 : decode cX6_checks 30 = .ok (.invokevirtual 111, 3) := by decide +kernel
theorem dX6_checks_33 : decode cX6_checks 33 = .ok (.aload_n 0, 1) := by decide +kernel
theorem dX6_checks_34 : decode cX6_checks 34 = .ok (.iload_n 2, 1) := by decide +kernel
theorem dX6_checks_35 : decode cX6_checks 35 = .ok (.bipush 9, 2) := by decide +kernel
theorem dX6_checks_37 : decode cX6_checks 37 = .ok (.invokevirtual 55, 3) := by decide +kernel
theorem dX6_checks_40 : decode cX6_checks 40 = .ok (.if_icmp .le 20, 3) := by decide +kernel
theorem dX6_checks_43 : decode cX6_checks 43 = .ok (.aload_n 0, 1) := by decide +kernel
theorem dX6_checks_44 : decode cX6_checks 44 = .ok (.getfield 25, 3) := by decide +kernel
theorem dX6_checks_47 : decode cX6_checks 47 = .ok (.iload_n 1, 1) := by decide +kernel
theorem dX6_checks_48 : decode cX6_checks 48 = .ok (.iconst 1, 1) := by decide +kernel
theorem dX6_checks_49 : decode cX6_checks 49 = .ok (.iastore, 1) := by decide +kernel
theorem dX6_checks_50 : decode cX6_checks 50 = .ok (.aload_n 0, 1) := by decide +kernel
theorem dX6_checks_51 : decode cX6_checks 51 = .ok (.getfield 28, 3) := by decide +kernel
theorem dX6_checks_54 : decode cX6_checks 54 = .ok (.iload_n 1, 1) := by decide +kernel
theorem dX6_checks_55 : decode cX6_checks 55 = .ok (.iconst 0, 1) := by decide +kernel
theorem dX6_checks_56 : decode cX6_checks 56 = .ok (.iastore, 1) := by decide +kernel
theorem dX6_checks_57 : decode cX6_checks 57 = .ok (.goto 78, 3) := by decide +kernel
theorem dX6_checks_60 : decode cX6_checks 60 = .ok (.iload_n 3, 1) := by decide +kernel
theorem dX6_checks_61 : decode cX6_checks 61 = .ok (.aload_n 0, 1) := by decide +kernel
theorem dX6_checks_62 : decode cX6_checks 62 = .ok (.iload_n 2, 1) := by decide +kernel
theorem dX6_checks_63 : decode cX6_checks 63 = .ok (.bipush 10, 2) := by decide +kernel
theorem dX6_checks_65 : decode cX6_checks 65 = .ok (.invokevirtual 55, 3) := by decide +kernel
theorem dX6_checks_68 : decode cX6_checks 68 = .ok (.if_icmp .ne 44, 3) := by decide +kernel
theorem dX6_checks_71 : decode cX6_checks 71 = .ok (.aload_n 0, 1) := by decide +kernel
theorem dX6_checks_72 : decode cX6_checks 72 = .ok (.iload_n 2, 1) := by decide +kernel
theorem dX6_checks_73 : decode cX6_checks 73 = .ok (.bipush 9, 2) := by decide +kernel
theorem dX6_checks_75 : decode cX6_checks 75 = .ok (.aload_n 0, 1) := by decide +kernel
theorem dX6_checks_76 : decode cX6_checks 76 = .ok (.getfield 7, 3) := by decide +kernel
theorem dX6_checks_79 : decode cX6_checks 79 = .ok (.iconst 0, 1) := by decide +kernel
theorem dX6_checks_80 : decode cX6_checks 80 = .ok (.iaload, 1) := by decide +kernel
theorem dX6_checks_81 : decode cX6_checks 81 = .ok (.invokevirtual 63, 3) := by decide +kernel
theorem dX6_checks_84 : decode cX6_checks 84 = .ok (.aload_n 0, 1) := by decide +kernel
theorem dX6_checks_85 : decode cX6_checks 85 = .ok (.getfield 7, 3) := by decide +kernel
theorem dX6_checks_88 : decode cX6_checks 88 = .ok (.iconst 2, 1) := by decide +kernel
theorem dX6_checks_89 : decode cX6_checks 89 = .ok (.dup2, 1) := by decide +kernel
theorem dX6_checks_90 : decode cX6_checks 90 = .ok (.iaload, 1) := by decide +kernel
theorem dX6_checks_91 : decode cX6_checks 91 = .ok (.iconst 1, 1) := by decide +kernel
theorem dX6_checks_92 : decode cX6_checks 92 = .ok (.iadd, 1) := by decide +kernel
theorem dX6_checks_93 : decode cX6_checks 93 = .ok (.iastore, 1) := by decide +kernel
theorem dX6_checks_94 : decode cX6_checks 94 = .ok (.aload_n 0, 1) := by decide +kernel
theorem dX6_checks_95 : decode cX6_checks 95 = .ok (.iload_n 2, 1) := by decide +kernel
theorem dX6_checks_96 : decode cX6_checks 96 = .ok (.invokevirtual 91, 3) := by decide +kernel
theorem dX6_checks_99 : decode cX6_checks 99 = .ok (.aload_n 0, 1) := by decide +kernel
theorem dX6_checks_100 : decode cX6_checks 100 = .ok (.dup, 1) := by decide +kernel
theorem dX6_checks_101 : decode cX6_checks 101 = .ok (.getfield 88, 3) := by decide +kernel
theorem dX6_checks_104 : decode cX6_checks 104 = .ok (.iconst 1, 1) := by decide +kernel
theorem dX6_checks_105 : decode cX6_checks 105 = .ok (.isub, 1) := by decide +kernel
theorem dX6_checks_106 : decode cX6_checks 106 = .ok (.putfield 88, 3) := by decide +kernel
theorem dX6_checks_109 : decode cX6_checks 109 = .ok (.goto 26, 3) := by decide +kernel
theorem dX6_checks_112 : decode cX6_checks 112 = .ok (.aload_n 0, 1) := by decide +kernel
theorem dX6_checks_113 : decode cX6_checks 113 = .ok (.getfield 28, 3) := by decide +kernel
theorem dX6_checks_116 : decode cX6_checks 116 = .ok (.iload_n 1, 1) := by decide +kernel
theorem dX6_checks_117 : decode cX6_checks 117 = .ok (.dup2, 1) := by decide +kernel
theorem dX6_checks_118 : decode cX6_checks 118 = .ok (.iaload, 1) := by decide +kernel
theorem dX6_checks_119 : decode cX6_checks 119 = .ok (.iconst 1, 1) := by decide +kernel
theorem dX6_checks_120 : decode cX6_checks 120 = .ok (.iadd, 1) := by decide +kernel
theorem dX6_checks_121 : decode cX6_checks 121 = .ok (.iastore, 1) := by decide +kernel
theorem dX6_checks_122 : decode cX6_checks 122 = .ok (.aload_n 0, 1) := by decide +kernel
theorem dX6_checks_123 : decode cX6_checks 123 = .ok (.aload_n 0, 1) := by decide +kernel
theorem dX6_checks_124 : decode cX6_checks 124 = .ok (.iload_n 2, 1) := by decide +kernel
theorem dX6_checks_125 : decode cX6_checks 125 = .ok (.bipush 11, 2) := by decide +kernel
theorem dX6_checks_127 : decode cX6_checks 127 = .ok (.iload_n 3, 1) := by decide +kernel
theorem dX6_checks_128 : decode cX6_checks 128 = .ok (.iadd, 1) := by decide +kernel
theorem dX6_checks_129 : decode cX6_checks 129 = .ok (.invokevirtual 55, 3) := by decide +kernel
theorem dX6_checks_132 : decode cX6_checks 132 = .ok (.invokevirtual 114, 3) := by decide +kernel
theorem dX6_checks_135 : decode cX6_checks 135 = .ok (.return_, 1) := by decide +kernel
theorem dX6_ends_0 : decode cX6_ends 0 = .ok (.aload_n 0, 1) := by decide +kernel
theorem dX6_ends_1 : decode cX6_ends 1 = .ok (.aload_n 0, 1) := by decide +kernel
theorem dX6_ends_2 : decode cX6_ends 2 = .ok (.iload_n 1, 1) := by decide +kernel
theorem dX6_ends_3 : decode cX6_ends 3 = .ok (.iconst 2, 1) := by decide +kernel
theorem dX6_ends_4 : decode cX6_ends 4 = .ok (.invokevirtual 55, 3) := by decide +kernel
theorem dX6_ends_7 : decode cX6_ends 7 = .ok (.invokevirtual 117, 3) := by decide +kernel
theorem dX6_ends_10 : decode cX6_ends 10 = .ok (.istore 4, 2) := by decide +kernel
theorem dX6_ends_12 : decode cX6_ends 12 = .ok (.iload_n 2, 1) := by decide +kernel
theorem dX6_ends_13 : decode cX6_ends 13 = .ok (.iconst 1, 1) := by decide +kernel
theorem dX6_ends_14 : decode cX6_ends 14 = .ok (.if_icmp .ne 8, 3) := by decide +kernel
theorem dX6_ends_17 : decode cX6_ends 17 = .ok (.ldc 106, 2) := by decide +kernel
theorem dX6_ends_19 : decode cX6_ends 19 = .ok (.goto 19, 3) := by decide +kernel
theorem dX6_ends_22 : decode cX6_ends 22 = .ok (.aload_n 0, 1) := by decide +kernel
theorem dX6_ends_23 : decode cX6_ends 23 = .ok (.iload_n 1, 1) := by decide +kernel
theorem dX6_ends_24 : decode cX6_ends 24 = .ok (.iconst 0, 1) := by decide +kernel
theorem dX6_ends_25 : decode cX6_ends 25 = .ok (.invokevirtual 55, 3) := by decide +kernel
theorem dX6_ends_28 : decode cX6_ends 28 = .ok (.iload 4, 2) := by decide +kernel
theorem dX6_ends_30 : decode cX6_ends 30 = .ok (.aload_n 0, 1) := by decide +kernel
theorem dX6_ends_31 : decode cX6_ends 31 = .ok (.iload_n 3, 1) := by decide +kernel
theorem dX6_ends_32 : decode cX6_ends 32 = .ok (.invokevirtual 117, 3) := by decide +kernel
theorem dX6_ends_35 : decode cX6_ends 35 = .ok (.invokestatic 120, 3) := by decide +kernel
theorem dX6_ends_38 : decode cX6_ends 38 = .ok (.istore 5, 2) := by decide +kernel
theorem dX6_ends_40 : decode cX6_ends 40 = .ok (.aload_n 0, 1) := by decide +kernel
theorem dX6_ends_41 : decode cX6_ends 41 = .ok (.iload_n 1, 1) := by decide +kernel
theorem dX6_ends_42 : decode cX6_ends 42 = .ok (.bipush 6, 2) := by decide +kernel
theorem dX6_ends_44 : decode cX6_ends 44 = .ok (.invokevirtual 55, 3) := by decide +kernel
theorem dX6_ends_47 : decode cX6_ends 47 = .ok (.iconst 1, 1) := by decide +kernel
theorem dX6_ends_48 : decode cX6_ends 48 = .ok (.if_icmp .ne 19, 3) := by decide +kernel
theorem dX6_ends_51 : decode cX6_ends 51 = .ok (.aload_n 0, 1) := by decide +kernel
theorem dX6_ends_52 : decode cX6_ends 52 = .ok (.iload_n 1, 1) := by decide +kernel
theorem dX6_ends_53 : decode cX6_ends 53 = .ok (.bipush 7, 2) := by decide +kernel
theorem dX6_ends_55 : decode cX6_ends 55 = .ok (.invokevirtual 55, 3) := by decide +kernel
theorem dX6_ends_58 : decode cX6_ends 58 = .ok (.iload 5, 2) := by decide +kernel
theorem dX6_ends_60 : decode cX6_ends 60 = .ok (.if_icmp .ne 7, 3) := by decide +kernel
theorem dX6_ends_63 : decode cX6_ends 63 = .ok (.iconst 1, 1) := by decide +kernel
theorem dX6_ends_64 : decode cX6_ends 64 = .ok (.goto 4, 3) := by decide +kernel
theorem dX6_ends_67 : decode cX6_ends 67 = .ok (.iconst 0, 1) := by decide +kernel
theorem dX6_ends_68 : decode cX6_ends 68 = .ok (.istore 6, 2) := by decide +kernel
theorem dX6_ends_70 : decode cX6_ends 70 = .ok (.aload_n 0, 1) := by decide +kernel
theorem dX6_ends_71 : decode cX6_ends 71 = .ok (.getfield 7, 3) := by decide +kernel
theorem dX6_ends_74 : decode cX6_ends 74 = .ok (.bipush 6, 2) := by decide +kernel
theorem dX6_ends_76 : decode cX6_ends 76 = .ok (.dup2, 1) := by decide +kernel
theorem dX6_ends_77 : decode cX6_ends 77 = .ok (.iaload, 1) := by decide +kernel
theorem dX6_ends_78 : decode cX6_ends 78 = .ok (.iload 6, 2) := by decide +kernel
theorem dX6_ends_80 : decode cX6_ends 80 = .ok (.ifCond .eq 7, 3) := by decide +kernel
theorem dX6_ends_83 : decode cX6_ends 83 = .ok (.iconst 1, 1) := by decide +kernel
theorem dX6_ends_84 : decode cX6_ends 84 = .ok (.goto 4, 3) := by decide +kernel
theorem dX6_ends_87 : decode cX6_ends 87 = .ok (.iconst 0, 1) := by decide +kernel
theorem dX6_ends_88 : decode cX6_ends 88 = .ok (.iadd, 1) := by decide +kernel
theorem dX6_ends_89 : decode cX6_ends 89 = .ok (.iastore, 1) := by decide +kernel
theorem dX6_ends_90 : decode cX6_ends 90 = .ok (.aload_n 0, 1) := by decide +kernel
theorem dX6_ends_91 : decode cX6_ends 91 = .ok (.iload_n 1, 1) := by decide +kernel
theorem dX6_ends_92 : decode cX6_ends 92 = .ok (.bipush 8, 2) := by decide +kernel
theorem dX6_ends_94 : decode cX6_ends 94 = .ok (.iload 6, 2) := by decide +kernel
theorem dX6_ends_96 : decode cX6_ends 96 = .ok (.ifCond .eq 13, 3) := by decide +kernel
theorem dX6_ends_99 : decode cX6_ends 99 = .ok (.aload_n 0, 1) := by decide +kernel
theorem dX6_ends_100 : decode cX6_ends 100 = .ok (.iload_n 1, 1) := by decide +kernel
theorem dX6_ends_101 : decode cX6_ends 101 = .ok (.bipush 8, 2) := by decide +kernel
theorem dX6_ends_103 : decode cX6_ends 103 = .ok (.invokevirtual 55, 3) := by decide +kernel
theorem dX6_ends_106 : decode cX6_ends 106 = .ok (.goto 9, 3) := by decide +kernel
theorem dX6_ends_109 : decode cX6_ends 109 = .ok (.aload_n 0, 1) := by decide +kernel
theorem dX6_ends_110 : decode cX6_ends 110 = .ok (.getfield 7, 3) := by decide +kernel
theorem dX6_ends_113 : decode cX6_ends 113 = .ok (.iconst 0, 1) := by decide +kernel
theorem dX6_ends_114 : decode cX6_ends 114 = .ok (.iaload, 1) := by decide +kernel
theorem dX6_ends_115 : decode cX6_ends 115 = .ok (.invokevirtual 63, 3) := by decide +kernel
theorem dX6_ends_118 : decode cX6_ends 118 = .ok (.aload_n 0, 1) := by decide +kernel
theorem dX6_ends_119 : decode cX6_ends 119 = .ok (.iload_n 1, 1) := by decide +kernel
theorem dX6_ends_120 : decode cX6_ends 120 = .ok (.bipush 6, 2) := by decide +kernel
theorem dX6_ends_122 : decode cX6_ends 122 = .ok (.iconst 1, 1) := by decide +kernel
theorem dX6_ends_123 : decode cX6_ends 123 = .ok (.invokevirtual 63, 3) := by decide +kernel
theorem dX6_ends_126 : decode cX6_ends 126 = .ok (.aload_n 0, 1) := by decide +kernel
theorem dX6_ends_127 : decode cX6_ends 127 = .ok (.iload_n 1, 1) := by decide +kernel
theorem dX6_ends_128 : decode cX6_ends 128 = .ok (.bipush 7, 2) := by decide +kernel
theorem dX6_ends_130 : decode cX6_ends 130 = .ok (.iload 5, 2) := by decide +kernel
theorem dX6_ends_132 : decode cX6_ends 132 = .ok (.invokevirtual 63, 3) := by decide +kernel
theorem dX6_ends_135 : decode cX6_ends 135 = .ok (.aload_n 0, 1) := by decide +kernel
theorem dX6_ends_136 : decode cX6_ends 136 = .ok (.iload_n 1, 1) := by decide +kernel
theorem dX6_ends_137 : decode cX6_ends 137 = .ok (.bipush 9, 2) := by decide +kernel
theorem dX6_ends_139 : decode cX6_ends 139 = .ok (.aload_n 0, 1) := by decide +kernel
theorem dX6_ends_140 : decode cX6_ends 140 = .ok (.getfield 7, 3) := by decide +kernel
theorem dX6_ends_143 : decode cX6_ends 143 = .ok (.iconst 0, 1) := by decide +kernel
theorem dX6_ends_144 : decode cX6_ends 144 = .ok (.iaload, 1) := by decide +kernel
theorem dX6_ends_145 : decode cX6_ends 145 = .ok (.invokevirtual 63, 3) := by decide +kernel
theorem dX6_ends_148 : decode cX6_ends 148 = .ok (.aload_n 0, 1) := by decide +kernel
theorem dX6_ends_149 : decode cX6_ends 149 = .ok (.iload_n 1, 1) := by decide +kernel
theorem dX6_ends_150 : decode cX6_ends 150 = .ok (.bipush 10, 2) := by decide +kernel
theorem dX6_ends_152 : decode cX6_ends 152 = .ok (.iload_n 2, 1) := by decide +kernel
theorem dX6_ends_153 : decode cX6_ends 153 = .ok (.invokevirtual 63, 3) := by decide +kernel
theorem dX6_ends_156 : decode cX6_ends 156 = .ok (.aload_n 0, 1) := by decide +kernel
theorem dX6_ends_157 : decode cX6_ends 157 = .ok (.iload_n 1, 1) := by decide +kernel
theorem dX6_ends_158 : decode cX6_ends 158 = .ok (.bipush 11, 2) := by decide +kernel
theorem dX6_ends_160 : decode cX6_ends 160 = .ok (.aload_n 0, 1) := by decide +kernel
theorem dX6_ends_161 : decode cX6_ends 161 = .ok (.iload_n 1, 1) := by decide +kernel
theorem dX6_ends_162 : decode cX6_ends 162 = .ok (.iconst 2, 1) := by decide +kernel
theorem dX6_ends_163 : decode cX6_ends 163 = .ok (.invokevirtual 55, 3) := by decide +kernel
theorem dX6_ends_166 : decode cX6_ends 166 = .ok (.invokevirtual 63, 3) := by decide +kernel
theorem dX6_ends_169 : decode cX6_ends 169 = .ok (.aload_n 0, 1) := by decide +kernel
theorem dX6_ends_170 : decode cX6_ends 170 = .ok (.iload_n 1, 1) := by decide +kernel
theorem dX6_ends_171 : decode cX6_ends 171 = .ok (.bipush 12, 2) := by decide +kernel
theorem dX6_ends_173 : decode cX6_ends 173 = .ok (.iload_n 2, 1) := by decide +kernel
theorem dX6_ends_174 : decode cX6_ends 174 = .ok (.iconst 1, 1) := by decide +kernel
theorem dX6_ends_175 : decode cX6_ends 175 = .ok (.if_icmp .ne 7, 3) := by decide +kernel
theorem dX6_ends_178 : decode cX6_ends 178 = .ok (.iconst 0, 1) := by decide +kernel
theorem dX6_ends_179 : decode cX6_ends 179 = .ok (.goto 4, 3) := by decide +kernel
theorem dX6_ends_182 : decode cX6_ends 182 = .ok (.iload_n 3, 1) := by decide +kernel
theorem dX6_ends_183 : decode cX6_ends 183 = .ok (.invokevirtual 63, 3) := by decide +kernel
theorem dX6_ends_186 : decode cX6_ends 186 = .ok (.aload_n 0, 1) := by decide +kernel
theorem dX6_ends_187 : decode cX6_ends 187 = .ok (.getfield 7, 3) := by decide +kernel
theorem dX6_ends_190 : decode cX6_ends 190 = .ok (.iconst 1, 1) := by decide +kernel
theorem dX6_ends_191 : decode cX6_ends 191 = .ok (.dup2, 1) := by decide +kernel
theorem dX6_ends_192 : decode cX6_ends 192 = .ok (.iaload, 1) := by decide +kernel
theorem dX6_ends_193 : decode cX6_ends 193 = .ok (.iconst 1, 1) := by decide +kernel
theorem dX6_ends_194 : decode cX6_ends 194 = .ok (.iadd, 1) := by decide +kernel
theorem dX6_ends_195 : decode cX6_ends 195 = .ok (.iastore, 1) := by decide +kernel
theorem dX6_ends_196 : decode cX6_ends 196 = .ok (.aload_n 0, 1) := by decide +kernel
theorem dX6_ends_197 : decode cX6_ends 197 = .ok (.iload_n 1, 1) := by decide +kernel
theorem dX6_ends_198 : decode cX6_ends 198 = .ok (.invokevirtual 91, 3) := by decide +kernel
theorem dX6_ends_201 : decode cX6_ends 201 = .ok (.aload_n 0, 1) := by decide +kernel
theorem dX6_ends_202 : decode cX6_ends 202 = .ok (.dup, 1) := by decide +kernel
theorem dX6_ends_203 : decode cX6_ends 203 = .ok (.getfield 88, 3) := by decide +kernel
theorem dX6_ends_206 : decode cX6_ends 206 = .ok (.iconst 1, 1) := by decide +kernel
theorem dX6_ends_207 : decode cX6_ends 207 = .ok (.isub, 1) := by decide +kernel
theorem dX6_ends_208 : decode cX6_ends 208 = .ok (.putfield 88, 3) := by decide +kernel
theorem dX6_ends_211 : decode cX6_ends 211 = .ok (.return_, 1) := by decide +kernel
theorem dX6_works_0 : decode cX6_works 0 = .ok (.aload_n 0, 1) := by decide +kernel
theorem dX6_works_1 : decode cX6_works 1 = .ok (.getfield 22, 3) := by decide +kernel
theorem dX6_works_4 : decode cX6_works 4 = .ok (.iload_n 1, 1) := by decide +kernel
theorem dX6_works_5 : decode cX6_works 5 = .ok (.iaload, 1) := by decide +kernel
theorem dX6_works_6 : decode cX6_works 6 = .ok (.istore_n 2, 1) := by decide +kernel
theorem dX6_works_7 : decode cX6_works 7 = .ok (.aload_n 0, 1) := by decide +kernel
theorem dX6_works_8 : decode cX6_works 8 = .ok (.getfield 28, 3) := by decide +kernel
theorem dX6_works_11 : decode cX6_works 11 = .ok (.iload_n 1, 1) := by decide +kernel
theorem dX6_works_12 : decode cX6_works 12 = .ok (.dup2, 1) := by decide +kernel
theorem dX6_works_13 : decode cX6_works 13 = .ok (.iaload, 1) := by decide +kernel
theorem dX6_works_14 : decode cX6_works 14 = .ok (.iconst 1, 1) := by decide +kernel
theorem dX6_works_15 : decode cX6_works 15 = .ok (.iadd, 1) := by decide +kernel
theorem dX6_works_16 : decode cX6_works 16 = .ok (.iastore, 1) := by decide +kernel
theorem dX6_works_17 : decode cX6_works 17 = .ok (.aload_n 0, 1) := by decide +kernel
theorem dX6_works_18 : decode cX6_works 18 = .ok (.getfield 28, 3) := by decide +kernel
theorem dX6_works_21 : decode cX6_works 21 = .ok (.iload_n 1, 1) := by decide +kernel
theorem dX6_works_22 : decode cX6_works 22 = .ok (.iaload, 1) := by decide +kernel
theorem dX6_works_23 : decode cX6_works 23 = .ok (.iconst 1, 1) := by decide +kernel
theorem dX6_works_24 : decode cX6_works 24 = .ok (.if_icmp .ne 16, 3) := by decide +kernel
theorem dX6_works_27 : decode cX6_works 27 = .ok (.aload_n 0, 1) := by decide +kernel
theorem dX6_works_28 : decode cX6_works 28 = .ok (.aload_n 0, 1) := by decide +kernel
theorem dX6_works_29 : decode cX6_works 29 = .ok (.iload_n 2, 1) := by decide +kernel
theorem dX6_works_30 : decode cX6_works 30 = .ok (.iconst 2, 1) := by decide +kernel
theorem dX6_works_31 : decode cX6_works 31 = .ok (.invokevirtual 55, 3) := by decide +kernel
theorem dX6_works_34 : decode cX6_works 34 = .ok (.invokevirtual 114, 3) := by decide +kernel
theorem dX6_works_37 : decode cX6_works 37 = .ok (.goto 117, 3) := by decide +kernel
theorem dX6_works_40 : decode cX6_works 40 = .ok (.aload_n 0, 1) := by decide +kernel
theorem dX6_works_41 : decode cX6_works 41 = .ok (.getfield 28, 3) := by decide +kernel
theorem dX6_works_44 : decode cX6_works 44 = .ok (.iload_n 1, 1) := by decide +kernel
theorem dX6_works_45 : decode cX6_works 45 = .ok (.iaload, 1) := by decide +kernel
theorem dX6_works_46 : decode cX6_works 46 = .ok (.iconst 2, 1) := by decide +kernel
theorem dX6_works_47 : decode cX6_works 47 = .ok (.if_icmp .ne 95, 3) := by decide +kernel
theorem dX6_works_50 : decode cX6_works 50 = .ok (.aload_n 0, 1) := by decide +kernel
theorem dX6_works_51 : decode cX6_works 51 = .ok (.aload_n 0, 1) := by decide +kernel
theorem dX6_works_52 : decode cX6_works 52 = .ok (.iload_n 2, 1) := by decide +kernel
theorem dX6_works_53 : decode cX6_works 53 = .ok (.iconst 2, 1) := by decide +kernel
theorem dX6_works_54 : decode cX6_works 54 = .ok (.invokevirtual 55, 3) := by decide +kernel
theorem dX6_works_57 : decode cX6_works 57 = .ok (.invokevirtual 117, 3) := by decide +kernel
theorem dX6_works_60 : decode cX6_works 60 = .ok (.istore_n 3, 1) := by decide +kernel
theorem dX6_works_61 : decode cX6_works 61 = .ok (.aload_n 0, 1) := by decide +kernel
theorem dX6_works_62 : decode cX6_works 62 = .ok (.iload_n 2, 1) := by decide +kernel
theorem dX6_works_63 : decode cX6_works 63 = .ok (.iconst 0, 1) := by decide +kernel
theorem dX6_works_64 : decode cX6_works 64 = .ok (.invokevirtual 55, 3) := by decide +kernel
theorem dX6_works_67 : decode cX6_works 67 = .ok (.iconst 5, 1) := by decide +kernel
theorem dX6_works_68 : decode cX6_works 68 = .ok (.if_icmp .ne 7, 3) := by decide +kernel
theorem dX6_works_71 : decode cX6_works 71 = .ok (.iconst 1, 1) := by decide +kernel
theorem dX6_works_72 : decode cX6_works 72 = .ok (.goto 4, 3) := by decide +kernel
theorem dX6_works_75 : decode cX6_works 75 = .ok (.iconst 0, 1) := by decide +kernel
theorem dX6_works_76 : decode cX6_works 76 = .ok (.istore 4, 2) := by decide +kernel
theorem dX6_works_78 : decode cX6_works 78 = .ok (.aload_n 0, 1) := by decide +kernel
theorem dX6_works_79 : decode cX6_works 79 = .ok (.getfield 31, 3) := by decide +kernel
theorem dX6_works_82 : decode cX6_works 82 = .ok (.iload_n 1, 1) := by decide +kernel
theorem dX6_works_83 : decode cX6_works 83 = .ok (.iload 4, 2) := by decide +kernel
theorem dX6_works_85 : decode cX6_works 85 = .ok (.ifCond .eq 16, 3) := by decide +kernel
theorem dX6_works_88 : decode cX6_works 88 = .ok (.iload_n 3, 1) := by decide +kernel
theorem dX6_works_89 : decode cX6_works 89 = .ok (.ifCond .gt 12, 3) := by decide +kernel
theorem dX6_works_92 : decode cX6_works 92 = .ok (.aload_n 0, 1) := by decide +kernel
theorem dX6_works_93 : decode cX6_works 93 = .ok (.iload_n 2, 1) := by decide +kernel
theorem dX6_works_94 : decode cX6_works 94 = .ok (.iconst 4, 1) := by decide +kernel
theorem dX6_works_95 : decode cX6_works 95 = .ok (.invokevirtual 55, 3) := by decide +kernel
theorem dX6_works_98 : decode cX6_works 98 = .ok (.goto 9, 3) := by decide +kernel
theorem dX6_works_101 : decode cX6_works 101 = .ok (.aload_n 0, 1) := by decide +kernel
theorem dX6_works_102 : decode cX6_works 102 = .ok (.iload_n 2, 1) := by decide +kernel
theorem dX6_works_103 : decode cX6_works 103 = .ok (.iconst 3, 1) := by decide +kernel
theorem dX6_works_104 : decode cX6_works 104 = .ok (.invokevirtual 55, 3) := by decide +kernel
theorem dX6_works_107 : decode cX6_works 107 = .ok (.iastore, 1) := by decide +kernel
theorem dX6_works_108 : decode cX6_works 108 = .ok (.iload 4, 2) := by decide +kernel
theorem dX6_works_110 : decode cX6_works 110 = .ok (.ifCond .eq 19, 3) := by decide +kernel
theorem dX6_works_113 : decode cX6_works 113 = .ok (.iload_n 3, 1) := by decide +kernel
theorem dX6_works_114 : decode cX6_works 114 = .ok (.ldc 106, 2) := by decide +kernel
theorem dX6_works_116 : decode cX6_works 116 = .ok (.if_icmp .ne 13, 3) := by decide +kernel
theorem dX6_works_119 : decode cX6_works 119 = .ok (.aload_n 0, 1) := by decide +kernel
theorem dX6_works_120 : decode cX6_works 120 = .ok (.iload_n 2, 1) := by decide +kernel
theorem dX6_works_121 : decode cX6_works 121 = .ok (.iconst 1, 1) := by decide +kernel
theorem dX6_works_122 : decode cX6_works 122 = .ok (.iconst (-1), 1) := by decide +kernel
theorem dX6_works_123 : decode cX6_works 123 = .ok (.invokevirtual 124, 3) := by decide +kernel
theorem dX6_works_126 : decode cX6_works 126 = .ok (.goto 13, 3) := by decide +kernel
theorem dX6_works_129 : decode cX6_works 129 = .ok (.aload_n 0, 1) := by decide +kernel
theorem dX6_works_130 : decode cX6_works 130 = .ok (.aload_n 0, 1) := by decide +kernel
theorem dX6_works_131 : decode cX6_works 131 = .ok (.getfield 31, 3) := by decide +kernel
theorem dX6_works_134 : decode cX6_works 134 = .ok (.iload_n 1, 1) := by decide +kernel
theorem dX6_works_135 : decode cX6_works 135 = .ok (.iaload, 1) := by decide +kernel
theorem dX6_works_136 : decode cX6_works 136 = .ok (.invokevirtual 114, 3) := by decide +kernel
theorem dX6_works_139 : decode cX6_works 139 = .ok (.goto 15, 3) := by decide +kernel
theorem dX6_works_142 : decode cX6_works 142 = .ok (.aload_n 0, 1) := by decide +kernel
theorem dX6_works_143 : decode cX6_works 143 = .ok (.iload_n 2, 1) := by decide +kernel
theorem dX6_works_144 : decode cX6_works 144 = .ok (.iconst 2, 1) := by decide +kernel
theorem dX6_works_145 : decode cX6_works 145 = .ok (.aload_n 0, 1) := by decide +kernel
theorem dX6_works_146 : decode cX6_works 146 = .ok (.getfield 31, 3) := by decide +kernel
theorem dX6_works_149 : decode cX6_works 149 = .ok (.iload_n 1, 1) := by decide +kernel
theorem dX6_works_150 : decode cX6_works 150 = .ok (.iaload, 1) := by decide +kernel
theorem dX6_works_151 : decode cX6_works 151 = .ok (.invokevirtual 124, 3) := by decide +kernel
theorem dX6_works_154 : decode cX6_works 154 = .ok (.return_, 1) := by decide +kernel
theorem dX6_looks_0 : decode cX6_looks 0 = .ok (.aload_n 0, 1) := by decide +kernel
theorem dX6_looks_1 : decode cX6_looks 1 = .ok (.iconst 0, 1) := by decide +kernel
theorem dX6_looks_2 : decode cX6_looks 2 = .ok (.putfield 88, 3) := by decide +kernel
theorem dX6_looks_5 : decode cX6_looks 5 = .ok (.aload_n 0, 1) := by decide +kernel
theorem dX6_looks_6 : decode cX6_looks 6 = .ok (.iconst 0, 1) := by decide +kernel
theorem dX6_looks_7 : decode cX6_looks 7 = .ok (.putfield 98, 3) := by decide +kernel
theorem dX6_looks_10 : decode cX6_looks 10 = .ok (.aload_n 0, 1) := by decide +kernel
theorem dX6_looks_11 : decode cX6_looks 11 = .ok (.iload_n 1, 1) := by decide +kernel
theorem dX6_looks_12 : decode cX6_looks 12 = .ok (.invokevirtual 114, 3) := by decide +kernel
theorem dX6_looks_15 : decode cX6_looks 15 = .ok (.aload_n 0, 1) := by decide +kernel
theorem dX6_looks_16 : decode cX6_looks 16 = .ok (.getfield 88, 3) := by decide +kernel
theorem dX6_looks_19 : decode cX6_looks 19 = .ok (.ifCond .le 50, 3) := by decide +kernel
theorem dX6_looks_22 : decode cX6_looks 22 = .ok (.aload_n 0, 1) := by decide +kernel
theorem dX6_looks_23 : decode cX6_looks 23 = .ok (.getfield 98, 3) := by decide +kernel
theorem dX6_looks_26 : decode cX6_looks 26 = .ok (.ifCond .ne 43, 3) := by decide +kernel
theorem dX6_looks_29 : decode cX6_looks 29 = .ok (.aload_n 0, 1) := by decide +kernel
theorem dX6_looks_30 : decode cX6_looks 30 = .ok (.getfield 25, 3) := by decide +kernel
theorem dX6_looks_33 : decode cX6_looks 33 = .ok (.aload_n 0, 1) := by decide +kernel
theorem dX6_looks_34 : decode cX6_looks 34 = .ok (.getfield 88, 3) := by decide +kernel
theorem dX6_looks_37 : decode cX6_looks 37 = .ok (.iconst 1, 1) := by decide +kernel
theorem dX6_looks_38 : decode cX6_looks 38 = .ok (.isub, 1) := by decide +kernel
theorem dX6_looks_39 : decode cX6_looks 39 = .ok (.iaload, 1) := by decide +kernel
theorem dX6_looks_40 : decode cX6_looks 40 = .ok (.ifCond .ne 16, 3) := by decide +kernel
theorem dX6_looks_43 : decode cX6_looks 43 = .ok (.aload_n 0, 1) := by decide +kernel
theorem dX6_looks_44 : decode cX6_looks 44 = .ok (.aload_n 0, 1) := by decide +kernel
theorem dX6_looks_45 : decode cX6_looks 45 = .ok (.getfield 88, 3) := by decide +kernel
theorem dX6_looks_48 : decode cX6_looks 48 = .ok (.iconst 1, 1) := by decide +kernel
theorem dX6_looks_49 : decode cX6_looks 49 = .ok (.isub, 1) := by decide +kernel
theorem dX6_looks_50 : decode cX6_looks 50 = .ok (.invokevirtual 127, 3) := by decide +kernel
theorem dX6_looks_53 : decode cX6_looks 53 = .ok (.goto (-38), 3) := by decide +kernel
theorem dX6_looks_56 : decode cX6_looks 56 = .ok (.aload_n 0, 1) := by decide +kernel
theorem dX6_looks_57 : decode cX6_looks 57 = .ok (.aload_n 0, 1) := by decide +kernel
theorem dX6_looks_58 : decode cX6_looks 58 = .ok (.getfield 88, 3) := by decide +kernel
theorem dX6_looks_61 : decode cX6_looks 61 = .ok (.iconst 1, 1) := by decide +kernel
theorem dX6_looks_62 : decode cX6_looks 62 = .ok (.isub, 1) := by decide +kernel
theorem dX6_looks_63 : decode cX6_looks 63 = .ok (.invokevirtual 130, 3) := by decide +kernel
theorem dX6_looks_66 : decode cX6_looks 66 = .ok (.goto (-51), 3) := by decide +kernel
theorem dX6_looks_69 : decode cX6_looks 69 = .ok (.aload_n 0, 1) := by decide +kernel
theorem dX6_looks_70 : decode cX6_looks 70 = .ok (.getfield 98, 3) := by decide +kernel
theorem dX6_looks_73 : decode cX6_looks 73 = .ok (.ifCond .ne 7, 3) := by decide +kernel
theorem dX6_looks_76 : decode cX6_looks 76 = .ok (.iconst 1, 1) := by decide +kernel
theorem dX6_looks_77 : decode cX6_looks 77 = .ok (.goto 4, 3) := by decide +kernel
theorem dX6_looks_80 : decode cX6_looks 80 = .ok (.iconst 0, 1) := by decide +kernel
theorem dX6_looks_81 : decode cX6_looks 81 = .ok (.ireturn, 1) := by decide +kernel
theorem dX6_remembered_0 : decode cX6_remembered 0 = .ok (.iconst 0, 1) := by decide +kernel
theorem dX6_remembered_1 : decode cX6_remembered 1 = .ok (.istore_n 1, 1) := by decide +kernel
theorem dX6_remembered_2 : decode cX6_remembered 2 = .ok (.iconst 0, 1) := by decide +kernel
theorem dX6_remembered_3 : decode cX6_remembered 3 = .ok (.istore_n 2, 1) := by decide +kernel
theorem dX6_remembered_4 : decode cX6_remembered 4 = .ok (.iload_n 2, 1) := by decide +kernel
theorem dX6_remembered_5 : decode cX6_remembered 5 = .ok (.bipush 10, 2) := by decide +kernel
theorem dX6_remembered_7 : decode cX6_remembered 7 = .ok (.if_icmp .ge 19, 3) := by decide +kernel
theorem dX6_remembered_10 : decode cX6_remembered 10 = .ok (.iload_n 1, 1) := by decide +kernel
theorem dX6_remembered_11 : decode cX6_remembered 11 = .ok (.aload_n 0, 1) := by decide +kernel
theorem dX6_remembered_12 : decode cX6_remembered 12 = .ok (.iload_n 2, 1) := by decide +kernel
theorem dX6_remembered_13 : decode cX6_remembered 13 = .ok (.bipush 6, 2) := by decide +kernel
theorem dX6_remembered_15 : decode cX6_remembered 15 = .ok (.invokevirtual 55, 3) := by decide +kernel
theorem dX6_remembered_18 : decode cX6_remembered 18 = .ok (.iadd, 1) := by decide +kernel
theorem dX6_remembered_19 : decode cX6_remembered 19 = .ok (.istore_n 1, 1) := by decide +kernel
theorem dX6_remembered_20 : decode cX6_remembered 20 = .ok (.iinc 2 1, 3) := by decide +kernel
theorem dX6_remembered_23 : decode cX6_remembered 23 = .ok (.goto (-19), 3) := by decide +kernel
theorem dX6_remembered_26 : decode cX6_remembered 26 = .ok (.iload_n 1, 1) := by decide +kernel
theorem dX6_remembered_27 : decode cX6_remembered 27 = .ok (.ireturn, 1) := by decide +kernel
theorem dX6_drops_0 : decode cX6_drops 0 = .ok (.bipush 6, 2) := by decide +kernel
theorem dX6_drops_2 : decode cX6_drops 2 = .ok (.istore_n 2, 1) := by decide +kernel
theorem dX6_drops_3 : decode cX6_drops 3 = .ok (.iload_n 2, 1) := by decide +kernel
theorem dX6_drops_4 : decode cX6_drops 4 = .ok (.bipush 15, 2) := by decide +kernel
theorem dX6_drops_6 : decode cX6_drops 6 = .ok (.if_icmp .ge 16, 3) := by decide +kernel
theorem dX6_drops_9 : decode cX6_drops 9 = .ok (.aload_n 0, 1) := by decide +kernel
theorem dX6_drops_10 : decode cX6_drops 10 = .ok (.iload_n 1, 1) := by decide +kernel
theorem dX6_drops_11 : decode cX6_drops 11 = .ok (.iload_n 2, 1) := by decide +kernel
theorem dX6_drops_12 : decode cX6_drops 12 = .ok (.iconst 0, 1) := by decide +kernel
theorem dX6_drops_13 : decode cX6_drops 13 = .ok (.invokevirtual 63, 3) := by decide +kernel
theorem dX6_drops_16 : decode cX6_drops 16 = .ok (.iinc 2 1, 3) := by decide +kernel
theorem dX6_drops_19 : decode cX6_drops 19 = .ok (.goto (-16), 3) := by decide +kernel
theorem dX6_drops_22 : decode cX6_drops 22 = .ok (.aload_n 0, 1) := by decide +kernel
theorem dX6_drops_23 : decode cX6_drops 23 = .ok (.getfield 7, 3) := by decide +kernel
theorem dX6_drops_26 : decode cX6_drops 26 = .ok (.iconst 4, 1) := by decide +kernel
theorem dX6_drops_27 : decode cX6_drops 27 = .ok (.dup2, 1) := by decide +kernel
theorem dX6_drops_28 : decode cX6_drops 28 = .ok (.iaload, 1) := by decide +kernel
theorem dX6_drops_29 : decode cX6_drops 29 = .ok (.iconst 1, 1) := by decide +kernel
theorem dX6_drops_30 : decode cX6_drops 30 = .ok (.iadd, 1) := by decide +kernel
theorem dX6_drops_31 : decode cX6_drops 31 = .ok (.iastore, 1) := by decide +kernel
theorem dX6_drops_32 : decode cX6_drops 32 = .ok (.return_, 1) := by decide +kernel
theorem dX6_trims_0 : decode cX6_trims 0 = .ok (.aload_n 0, 1) := by decide +kernel
theorem dX6_trims_1 : decode cX6_trims 1 = .ok (.invokevirtual 133, 3) := by decide +kernel
theorem dX6_trims_4 : decode cX6_trims 4 = .ok (.aload_n 0, 1) := by decide +kernel
theorem dX6_trims_5 : decode cX6_trims 5 = .ok (.getfield 7, 3) := by decide +kernel
theorem dX6_trims_8 : decode cX6_trims 8 = .ok (.iconst 5, 1) := by decide +kernel
theorem dX6_trims_9 : decode cX6_trims 9 = .ok (.iaload, 1) := by decide +kernel
theorem dX6_trims_10 : decode cX6_trims 10 = .ok (.if_icmp .le 65, 3) := by decide +kernel
theorem dX6_trims_13 : decode cX6_trims 13 = .ok (.iconst (-1), 1) := by decide +kernel
theorem dX6_trims_14 : decode cX6_trims 14 = .ok (.istore_n 1, 1) := by decide +kernel
theorem dX6_trims_15 : decode cX6_trims 15 = .ok (.iconst 0, 1) := by decide +kernel
theorem dX6_trims_16 : decode cX6_trims 16 = .ok (.istore_n 2, 1) := by decide +kernel
theorem dX6_trims_17 : decode cX6_trims 17 = .ok (.iload_n 2, 1) := by decide +kernel
theorem dX6_trims_18 : decode cX6_trims 18 = .ok (.bipush 10, 2) := by decide +kernel
theorem dX6_trims_20 : decode cX6_trims 20 = .ok (.if_icmp .ge 47, 3) := by decide +kernel
theorem dX6_trims_23 : decode cX6_trims 23 = .ok (.aload_n 0, 1) := by decide +kernel
theorem dX6_trims_24 : decode cX6_trims 24 = .ok (.iload_n 2, 1) := by decide +kernel
theorem dX6_trims_25 : decode cX6_trims 25 = .ok (.bipush 6, 2) := by decide +kernel
theorem dX6_trims_27 : decode cX6_trims 27 = .ok (.invokevirtual 55, 3) := by decide +kernel
theorem dX6_trims_30 : decode cX6_trims 30 = .ok (.iconst 1, 1) := by decide +kernel
theorem dX6_trims_31 : decode cX6_trims 31 = .ok (.if_icmp .ne 28, 3) := by decide +kernel
theorem dX6_trims_34 : decode cX6_trims 34 = .ok (.iload_n 1, 1) := by decide +kernel
theorem dX6_trims_35 : decode cX6_trims 35 = .ok (.ifCond .lt 20, 3) := by decide +kernel
theorem dX6_trims_38 : decode cX6_trims 38 = .ok (.aload_n 0, 1) := by decide +kernel
theorem dX6_trims_39 : decode cX6_trims 39 = .ok (.iload_n 2, 1) := by decide +kernel
theorem dX6_trims_40 : decode cX6_trims 40 = .ok (.bipush 13, 2) := by decide +kernel
theorem dX6_trims_42 : decode cX6_trims 42 = .ok (.invokevirtual 55, 3) := by decide +kernel
theorem dX6_trims_45 : decode cX6_trims 45 = .ok (.aload_n 0, 1) := by decide +kernel
theorem dX6_trims_46 : decode cX6_trims 46 = .ok (.iload_n 1, 1) := by decide +kernel
theorem dX6_trims_47 : decode cX6_trims 47 = .ok (.bipush 13, 2) := by decide +kernel
theorem dX6_trims_49 : decode cX6_trims 49 = .ok (.invokevirtual 55, 3) := by decide +kernel
theorem dX6_trims_52 : decode cX6_trims 52 = .ok (.if_icmp .ge 7, 3) := by decide +kernel
theorem dX6_trims_55 : decode cX6_trims 55 = .ok (.iload_n 2, 1) := by decide +kernel
theorem dX6_trims_56 : decode cX6_trims 56 = .ok (.goto 4, 3) := by decide +kernel
theorem dX6_trims_59 : decode cX6_trims 59 = .ok (.iload_n 1, 1) := by decide +kernel
theorem dX6_trims_60 : decode cX6_trims 60 = .ok (.istore_n 1, 1) := by decide +kernel
theorem dX6_trims_61 : decode cX6_trims 61 = .ok (.iinc 2 1, 3) := by decide +kernel
theorem dX6_trims_64 : decode cX6_trims 64 = .ok (.goto (-47), 3) := by decide +kernel
theorem dX6_trims_67 : decode cX6_trims 67 = .ok (.aload_n 0, 1) := by decide +kernel
theorem dX6_trims_68 : decode cX6_trims 68 = .ok (.iload_n 1, 1) := by decide +kernel
theorem dX6_trims_69 : decode cX6_trims 69 = .ok (.invokevirtual 137, 3) := by decide +kernel
theorem dX6_trims_72 : decode cX6_trims 72 = .ok (.goto (-72), 3) := by decide +kernel
theorem dX6_trims_75 : decode cX6_trims 75 = .ok (.return_, 1) := by decide +kernel
theorem dX6_ask_0 : decode cX6_ask 0 = .ok (.iload_n 1, 1) := by decide +kernel
theorem dX6_ask_1 : decode cX6_ask 1 = .ok (.invokestatic 69, 3) := by decide +kernel
theorem dX6_ask_4 : decode cX6_ask 4 = .ok (.ifCond .ne 6, 3) := by decide +kernel
theorem dX6_ask_7 : decode cX6_ask 7 = .ok (.ldc 50, 2) := by decide +kernel
theorem dX6_ask_9 : decode cX6_ask 9 = .ok (.ireturn, 1) := by decide +kernel
theorem dX6_ask_10 : decode cX6_ask 10 = .ok (.aload_n 0, 1) := by decide +kernel
theorem dX6_ask_11 : decode cX6_ask 11 = .ok (.invokevirtual 76, 3) := by decide +kernel
theorem dX6_ask_14 : decode cX6_ask 14 = .ok (.aload_n 0, 1) := by decide +kernel
theorem dX6_ask_15 : decode cX6_ask 15 = .ok (.iload_n 1, 1) := by decide +kernel
theorem dX6_ask_16 : decode cX6_ask 16 = .ok (.invokevirtual 140, 3) := by decide +kernel
theorem dX6_ask_19 : decode cX6_ask 19 = .ok (.ifCond .ne 10, 3) := by decide +kernel
theorem dX6_ask_22 : decode cX6_ask 22 = .ok (.aload_n 0, 1) := by decide +kernel
theorem dX6_ask_23 : decode cX6_ask 23 = .ok (.invokevirtual 143, 3) := by decide +kernel
theorem dX6_ask_26 : decode cX6_ask 26 = .ok (.ldc 146, 2) := by decide +kernel
theorem dX6_ask_28 : decode cX6_ask 28 = .ok (.ireturn, 1) := by decide +kernel
theorem dX6_ask_29 : decode cX6_ask 29 = .ok (.aload_n 0, 1) := by decide +kernel
theorem dX6_ask_30 : decode cX6_ask 30 = .ok (.iload_n 1, 1) := by decide +kernel
theorem dX6_ask_31 : decode cX6_ask 31 = .ok (.invokevirtual 117, 3) := by decide +kernel
theorem dX6_ask_34 : decode cX6_ask 34 = .ok (.istore_n 2, 1) := by decide +kernel
theorem dX6_ask_35 : decode cX6_ask 35 = .ok (.aload_n 0, 1) := by decide +kernel
theorem dX6_ask_36 : decode cX6_ask 36 = .ok (.invokevirtual 147, 3) := by decide +kernel
theorem dX6_ask_39 : decode cX6_ask 39 = .ok (.aload_n 0, 1) := by decide +kernel
theorem dX6_ask_40 : decode cX6_ask 40 = .ok (.iload_n 2, 1) := by decide +kernel
theorem dX6_ask_41 : decode cX6_ask 41 = .ok (.invokevirtual 83, 3) := by decide +kernel
theorem dX6_ask_44 : decode cX6_ask 44 = .ok (.ireturn, 1) := by decide +kernel
theorem dX6_cost_0 : decode cX6_cost 0 = .ok (.iload_n 1, 1) := by decide +kernel
theorem dX6_cost_1 : decode cX6_cost 1 = .ok (.invokestatic 69, 3) := by decide +kernel
theorem dX6_cost_4 : decode cX6_cost 4 = .ok (.ifCond .eq 12, 3) := by decide +kernel
theorem dX6_cost_7 : decode cX6_cost 7 = .ok (.iload_n 2, 1) := by decide +kernel
theorem dX6_cost_8 : decode cX6_cost 8 = .ok (.iconst 0, 1) := by decide +kernel
theorem dX6_cost_9 : decode cX6_cost 9 = .ok (.iconst 2, 1) := by decide +kernel
theorem dX6_cost_10 : decode cX6_cost 10 = .ok (.invokestatic 46, 3) := by decide +kernel
theorem dX6_cost_13 : decode cX6_cost 13 = .ok (.ifCond .ne 6, 3) := by decide +kernel
theorem dX6_cost_16 : decode cX6_cost 16 = .ok (.ldc 50, 2) := by decide +kernel
theorem dX6_cost_18 : decode cX6_cost 18 = .ok (.ireturn, 1) := by decide +kernel
theorem dX6_cost_19 : decode cX6_cost 19 = .ok (.aload_n 0, 1) := by decide +kernel
theorem dX6_cost_20 : decode cX6_cost 20 = .ok (.invokevirtual 76, 3) := by decide +kernel
theorem dX6_cost_23 : decode cX6_cost 23 = .ok (.aload_n 0, 1) := by decide +kernel
theorem dX6_cost_24 : decode cX6_cost 24 = .ok (.iload_n 1, 1) := by decide +kernel
theorem dX6_cost_25 : decode cX6_cost 25 = .ok (.invokevirtual 140, 3) := by decide +kernel
theorem dX6_cost_28 : decode cX6_cost 28 = .ok (.istore_n 3, 1) := by decide +kernel
theorem dX6_cost_29 : decode cX6_cost 29 = .ok (.aload_n 0, 1) := by decide +kernel
theorem dX6_cost_30 : decode cX6_cost 30 = .ok (.getfield 7, 3) := by decide +kernel
theorem dX6_cost_33 : decode cX6_cost 33 = .ok (.iconst 1, 1) := by decide +kernel
theorem dX6_cost_34 : decode cX6_cost 34 = .ok (.iload_n 2, 1) := by decide +kernel
theorem dX6_cost_35 : decode cX6_cost 35 = .ok (.iadd, 1) := by decide +kernel
theorem dX6_cost_36 : decode cX6_cost 36 = .ok (.iaload, 1) := by decide +kernel
theorem dX6_cost_37 : decode cX6_cost 37 = .ok (.aload_n 0, 1) := by decide +kernel
theorem dX6_cost_38 : decode cX6_cost 38 = .ok (.getfield 13, 3) := by decide +kernel
theorem dX6_cost_41 : decode cX6_cost 41 = .ok (.iconst 1, 1) := by decide +kernel
theorem dX6_cost_42 : decode cX6_cost 42 = .ok (.iload_n 2, 1) := by decide +kernel
theorem dX6_cost_43 : decode cX6_cost 43 = .ok (.iadd, 1) := by decide +kernel
theorem dX6_cost_44 : decode cX6_cost 44 = .ok (.iaload, 1) := by decide +kernel
theorem dX6_cost_45 : decode cX6_cost 45 = .ok (.isub, 1) := by decide +kernel
theorem dX6_cost_46 : decode cX6_cost 46 = .ok (.istore 4, 2) := by decide +kernel
theorem dX6_cost_48 : decode cX6_cost 48 = .ok (.aload_n 0, 1) := by decide +kernel
theorem dX6_cost_49 : decode cX6_cost 49 = .ok (.invokevirtual 143, 3) := by decide +kernel
theorem dX6_cost_52 : decode cX6_cost 52 = .ok (.iload_n 3, 1) := by decide +kernel
theorem dX6_cost_53 : decode cX6_cost 53 = .ok (.ifCond .eq 8, 3) := by decide +kernel
theorem dX6_cost_56 : decode cX6_cost 56 = .ok (.iload 4, 2) := by decide +kernel
theorem dX6_cost_58 : decode cX6_cost 58 = .ok (.goto 5, 3) := by decide +kernel
theorem dX6_cost_61 : decode cX6_cost 61 = .ok (.ldc 146, 2) := by decide +kernel
theorem dX6_cost_63 : decode cX6_cost 63 = .ok (.ireturn, 1) := by decide +kernel
theorem dX6_forget_0 : decode cX6_forget 0 = .ok (.iload_n 1, 1) := by decide +kernel
theorem dX6_forget_1 : decode cX6_forget 1 = .ok (.invokestatic 69, 3) := by decide +kernel
theorem dX6_forget_4 : decode cX6_forget 4 = .ok (.ifCond .ne 6, 3) := by decide +kernel
theorem dX6_forget_7 : decode cX6_forget 7 = .ok (.ldc 50, 2) := by decide +kernel
theorem dX6_forget_9 : decode cX6_forget 9 = .ok (.ireturn, 1) := by decide +kernel
theorem dX6_forget_10 : decode cX6_forget 10 = .ok (.aload_n 0, 1) := by decide +kernel
theorem dX6_forget_11 : decode cX6_forget 11 = .ok (.iload_n 1, 1) := by decide +kernel
theorem dX6_forget_12 : decode cX6_forget 12 = .ok (.bipush 6, 2) := by decide +kernel
theorem dX6_forget_14 : decode cX6_forget 14 = .ok (.invokevirtual 55, 3) := by decide +kernel
theorem dX6_forget_17 : decode cX6_forget 17 = .ok (.ifCond .ne 6, 3) := by decide +kernel
theorem dX6_forget_20 : decode cX6_forget 20 = .ok (.ldc 146, 2) := by decide +kernel
theorem dX6_forget_22 : decode cX6_forget 22 = .ok (.ireturn, 1) := by decide +kernel
theorem dX6_forget_23 : decode cX6_forget 23 = .ok (.aload_n 0, 1) := by decide +kernel
theorem dX6_forget_24 : decode cX6_forget 24 = .ok (.invokevirtual 76, 3) := by decide +kernel
theorem dX6_forget_27 : decode cX6_forget 27 = .ok (.aload_n 0, 1) := by decide +kernel
theorem dX6_forget_28 : decode cX6_forget 28 = .ok (.iload_n 1, 1) := by decide +kernel
theorem dX6_forget_29 : decode cX6_forget 29 = .ok (.invokevirtual 137, 3) := by decide +kernel
theorem dX6_forget_32 : decode cX6_forget 32 = .ok (.aload_n 0, 1) := by decide +kernel
theorem dX6_forget_33 : decode cX6_forget 33 = .ok (.aload_n 0, 1) := by decide +kernel
theorem dX6_forget_34 : decode cX6_forget 34 = .ok (.invokevirtual 133, 3) := by decide +kernel
theorem dX6_forget_37 : decode cX6_forget 37 = .ok (.invokevirtual 83, 3) := by decide +kernel
theorem dX6_forget_40 : decode cX6_forget 40 = .ok (.ireturn, 1) := by decide +kernel
theorem dX6_bound_0 : decode cX6_bound 0 = .ok (.iload_n 1, 1) := by decide +kernel
theorem dX6_bound_1 : decode cX6_bound 1 = .ok (.iconst 0, 1) := by decide +kernel
theorem dX6_bound_2 : decode cX6_bound 2 = .ok (.bipush 10, 2) := by decide +kernel
theorem dX6_bound_4 : decode cX6_bound 4 = .ok (.invokestatic 46, 3) := by decide +kernel
theorem dX6_bound_7 : decode cX6_bound 7 = .ok (.ifCond .ne 6, 3) := by decide +kernel
theorem dX6_bound_10 : decode cX6_bound 10 = .ok (.ldc 50, 2) := by decide +kernel
theorem dX6_bound_12 : decode cX6_bound 12 = .ok (.ireturn, 1) := by decide +kernel
theorem dX6_bound_13 : decode cX6_bound 13 = .ok (.aload_n 0, 1) := by decide +kernel
theorem dX6_bound_14 : decode cX6_bound 14 = .ok (.invokevirtual 76, 3) := by decide +kernel
theorem dX6_bound_17 : decode cX6_bound 17 = .ok (.aload_n 0, 1) := by decide +kernel
theorem dX6_bound_18 : decode cX6_bound 18 = .ok (.getfield 7, 3) := by decide +kernel
theorem dX6_bound_21 : decode cX6_bound 21 = .ok (.iconst 5, 1) := by decide +kernel
theorem dX6_bound_22 : decode cX6_bound 22 = .ok (.iaload, 1) := by decide +kernel
theorem dX6_bound_23 : decode cX6_bound 23 = .ok (.istore_n 2, 1) := by decide +kernel
theorem dX6_bound_24 : decode cX6_bound 24 = .ok (.aload_n 0, 1) := by decide +kernel
theorem dX6_bound_25 : decode cX6_bound 25 = .ok (.getfield 7, 3) := by decide +kernel
theorem dX6_bound_28 : decode cX6_bound 28 = .ok (.iconst 5, 1) := by decide +kernel
theorem dX6_bound_29 : decode cX6_bound 29 = .ok (.iload_n 1, 1) := by decide +kernel
theorem dX6_bound_30 : decode cX6_bound 30 = .ok (.iastore, 1) := by decide +kernel
theorem dX6_bound_31 : decode cX6_bound 31 = .ok (.aload_n 0, 1) := by decide +kernel
theorem dX6_bound_32 : decode cX6_bound 32 = .ok (.iload_n 2, 1) := by decide +kernel
theorem dX6_bound_33 : decode cX6_bound 33 = .ok (.invokevirtual 83, 3) := by decide +kernel
theorem dX6_bound_36 : decode cX6_bound 36 = .ok (.ireturn, 1) := by decide +kernel
theorem dX6_placeOf_0 : decode cX6_placeOf 0 = .ok (.iconst 0, 1) := by decide +kernel
theorem dX6_placeOf_1 : decode cX6_placeOf 1 = .ok (.istore_n 2, 1) := by decide +kernel
theorem dX6_placeOf_2 : decode cX6_placeOf 2 = .ok (.iconst 0, 1) := by decide +kernel
theorem dX6_placeOf_3 : decode cX6_placeOf 3 = .ok (.istore_n 3, 1) := by decide +kernel
theorem dX6_placeOf_4 : decode cX6_placeOf 4 = .ok (.iload_n 3, 1) := by decide +kernel
theorem dX6_placeOf_5 : decode cX6_placeOf 5 = .ok (.bipush 10, 2) := by decide +kernel
theorem dX6_placeOf_7 : decode cX6_placeOf 7 = .ok (.if_icmp .ge 45, 3) := by decide +kernel
theorem dX6_placeOf_10 : decode cX6_placeOf 10 = .ok (.iload_n 2, 1) := by decide +kernel
theorem dX6_placeOf_11 : decode cX6_placeOf 11 = .ok (.aload_n 0, 1) := by decide +kernel
theorem dX6_placeOf_12 : decode cX6_placeOf 12 = .ok (.iload_n 3, 1) := by decide +kernel
theorem dX6_placeOf_13 : decode cX6_placeOf 13 = .ok (.bipush 6, 2) := by decide +kernel
theorem dX6_placeOf_15 : decode cX6_placeOf 15 = .ok (.invokevirtual 55, 3) := by decide +kernel
theorem dX6_placeOf_18 : decode cX6_placeOf 18 = .ok (.iconst 1, 1) := by decide +kernel
theorem dX6_placeOf_19 : decode cX6_placeOf 19 = .ok (.if_icmp .ne 24, 3) := by decide +kernel
theorem dX6_placeOf_22 : decode cX6_placeOf 22 = .ok (.aload_n 0, 1) := by decide +kernel
theorem dX6_placeOf_23 : decode cX6_placeOf 23 = .ok (.iload_n 3, 1) := by decide +kernel
theorem dX6_placeOf_24 : decode cX6_placeOf 24 = .ok (.bipush 13, 2) := by decide +kernel
theorem dX6_placeOf_26 : decode cX6_placeOf 26 = .ok (.invokevirtual 55, 3) := by decide +kernel
theorem dX6_placeOf_29 : decode cX6_placeOf 29 = .ok (.aload_n 0, 1) := by decide +kernel
theorem dX6_placeOf_30 : decode cX6_placeOf 30 = .ok (.iload_n 1, 1) := by decide +kernel
theorem dX6_placeOf_31 : decode cX6_placeOf 31 = .ok (.bipush 13, 2) := by decide +kernel
theorem dX6_placeOf_33 : decode cX6_placeOf 33 = .ok (.invokevirtual 55, 3) := by decide +kernel
theorem dX6_placeOf_36 : decode cX6_placeOf 36 = .ok (.if_icmp .ge 7, 3) := by decide +kernel
theorem dX6_placeOf_39 : decode cX6_placeOf 39 = .ok (.iconst 1, 1) := by decide +kernel
theorem dX6_placeOf_40 : decode cX6_placeOf 40 = .ok (.goto 4, 3) := by decide +kernel
theorem dX6_placeOf_43 : decode cX6_placeOf 43 = .ok (.iconst 0, 1) := by decide +kernel
theorem dX6_placeOf_44 : decode cX6_placeOf 44 = .ok (.iadd, 1) := by decide +kernel
theorem dX6_placeOf_45 : decode cX6_placeOf 45 = .ok (.istore_n 2, 1) := by decide +kernel
theorem dX6_placeOf_46 : decode cX6_placeOf 46 = .ok (.iinc 3 1, 3) := by decide +kernel
theorem dX6_placeOf_49 : decode cX6_placeOf 49 = .ok (.goto (-45), 3) := by decide +kernel
theorem dX6_placeOf_52 : decode cX6_placeOf 52 = .ok (.iload_n 2, 1) := by decide +kernel
theorem dX6_placeOf_53 : decode cX6_placeOf 53 = .ok (.ireturn, 1) := by decide +kernel
theorem dX6_rememberedOf_0 : decode cX6_rememberedOf 0 = .ok (.iload_n 1, 1) := by decide +kernel
theorem dX6_rememberedOf_1 : decode cX6_rememberedOf 1 = .ok (.invokestatic 69, 3) := by decide +kernel
theorem dX6_rememberedOf_4 : decode cX6_rememberedOf 4 = .ok (.ifCond .eq 13, 3) := by decide +kernel
theorem dX6_rememberedOf_7 : decode cX6_rememberedOf 7 = .ok (.iload_n 2, 1) := by decide +kernel
theorem dX6_rememberedOf_8 : decode cX6_rememberedOf 8 = .ok (.iconst 0, 1) := by decide +kernel
theorem dX6_rememberedOf_9 : decode cX6_rememberedOf 9 = .ok (.bipush 6, 2) := by decide +kernel
theorem dX6_rememberedOf_11 : decode cX6_rememberedOf 11 = .ok (.invokestatic 46, 3) := by decide +kernel
theorem dX6_rememberedOf_14 : decode cX6_rememberedOf 14 = .ok (.ifCond .ne 6, 3) := by decide +kernel
theorem dX6_rememberedOf_17 : decode cX6_rememberedOf 17 = .ok (.ldc 50, 2) := by decide +kernel
theorem dX6_rememberedOf_19 : decode cX6_rememberedOf 19 = .ok (.ireturn, 1) := by decide +kernel
theorem dX6_rememberedOf_20 : decode cX6_rememberedOf 20 = .ok (.aload_n 0, 1) := by decide +kernel
theorem dX6_rememberedOf_21 : decode cX6_rememberedOf 21 = .ok (.iload_n 1, 1) := by decide +kernel
theorem dX6_rememberedOf_22 : decode cX6_rememberedOf 22 = .ok (.bipush 6, 2) := by decide +kernel
theorem dX6_rememberedOf_24 : decode cX6_rememberedOf 24 = .ok (.invokevirtual 55, 3) := by decide +kernel
theorem dX6_rememberedOf_27 : decode cX6_rememberedOf 27 = .ok (.ifCond .eq 25, 3) := by decide +kernel
theorem dX6_rememberedOf_30 : decode cX6_rememberedOf 30 = .ok (.iload_n 2, 1) := by decide +kernel
theorem dX6_rememberedOf_31 : decode cX6_rememberedOf 31 = .ok (.iconst 4, 1) := by decide +kernel
theorem dX6_rememberedOf_32 : decode cX6_rememberedOf 32 = .ok (.iconst 5, 1) := by decide +kernel
theorem dX6_rememberedOf_33 : decode cX6_rememberedOf 33 = .ok (.invokestatic 46, 3) := by decide +kernel
theorem dX6_rememberedOf_36 : decode cX6_rememberedOf 36 = .ok (.ifCond .eq 19, 3) := by decide +kernel
theorem dX6_rememberedOf_39 : decode cX6_rememberedOf 39 = .ok (.iload_n 2, 1) := by decide +kernel
theorem dX6_rememberedOf_40 : decode cX6_rememberedOf 40 = .ok (.iconst 4, 1) := by decide +kernel
theorem dX6_rememberedOf_41 : decode cX6_rememberedOf 41 = .ok (.isub, 1) := by decide +kernel
theorem dX6_rememberedOf_42 : decode cX6_rememberedOf 42 = .ok (.aload_n 0, 1) := by decide +kernel
theorem dX6_rememberedOf_43 : decode cX6_rememberedOf 43 = .ok (.iload_n 1, 1) := by decide +kernel
theorem dX6_rememberedOf_44 : decode cX6_rememberedOf 44 = .ok (.bipush 10, 2) := by decide +kernel
theorem dX6_rememberedOf_46 : decode cX6_rememberedOf 46 = .ok (.invokevirtual 55, 3) := by decide +kernel
theorem dX6_rememberedOf_49 : decode cX6_rememberedOf 49 = .ok (.if_icmp .lt 6, 3) := by decide +kernel
theorem dX6_rememberedOf_52 : decode cX6_rememberedOf 52 = .ok (.ldc 87, 2) := by decide +kernel
theorem dX6_rememberedOf_54 : decode cX6_rememberedOf 54 = .ok (.ireturn, 1) := by decide +kernel
theorem dX6_rememberedOf_55 : decode cX6_rememberedOf 55 = .ok (.iload_n 2, 1) := by decide +kernel
theorem dX6_rememberedOf_56 : decode cX6_rememberedOf 56 = .ok (.bipush 6, 2) := by decide +kernel
theorem dX6_rememberedOf_58 : decode cX6_rememberedOf 58 = .ok (.if_icmp .ne 11, 3) := by decide +kernel
theorem dX6_rememberedOf_61 : decode cX6_rememberedOf 61 = .ok (.aload_n 0, 1) := by decide +kernel
theorem dX6_rememberedOf_62 : decode cX6_rememberedOf 62 = .ok (.iload_n 1, 1) := by decide +kernel
theorem dX6_rememberedOf_63 : decode cX6_rememberedOf 63 = .ok (.invokevirtual 150, 3) := by decide +kernel
theorem dX6_rememberedOf_66 : decode cX6_rememberedOf 66 = .ok (.goto 12, 3) := by decide +kernel
theorem dX6_rememberedOf_69 : decode cX6_rememberedOf 69 = .ok (.aload_n 0, 1) := by decide +kernel
theorem dX6_rememberedOf_70 : decode cX6_rememberedOf 70 = .ok (.iload_n 1, 1) := by decide +kernel
theorem dX6_rememberedOf_71 : decode cX6_rememberedOf 71 = .ok (.bipush 7, 2) := by decide +kernel
theorem dX6_rememberedOf_73 : decode cX6_rememberedOf 73 = .ok (.iload_n 2, 1) := by decide +kernel
theorem dX6_rememberedOf_74 : decode cX6_rememberedOf 74 = .ok (.iadd, 1) := by decide +kernel
theorem dX6_rememberedOf_75 : decode cX6_rememberedOf 75 = .ok (.invokevirtual 55, 3) := by decide +kernel
theorem dX6_rememberedOf_78 : decode cX6_rememberedOf 78 = .ok (.ireturn, 1) := by decide +kernel
theorem dX6_wantedBy_0 : decode cX6_wantedBy 0 = .ok (.aload_n 0, 1) := by decide +kernel
theorem dX6_wantedBy_1 : decode cX6_wantedBy 1 = .ok (.iload_n 1, 1) := by decide +kernel
theorem dX6_wantedBy_2 : decode cX6_wantedBy 2 = .ok (.iconst 2, 1) := by decide +kernel
theorem dX6_wantedBy_3 : decode cX6_wantedBy 3 = .ok (.invokevirtual 55, 3) := by decide +kernel
theorem dX6_wantedBy_6 : decode cX6_wantedBy 6 = .ok (.istore_n 2, 1) := by decide +kernel
theorem dX6_wantedBy_7 : decode cX6_wantedBy 7 = .ok (.aload_n 0, 1) := by decide +kernel
theorem dX6_wantedBy_8 : decode cX6_wantedBy 8 = .ok (.getfield 34, 3) := by decide +kernel
theorem dX6_wantedBy_11 : decode cX6_wantedBy 11 = .ok (.iload_n 2, 1) := by decide +kernel
theorem dX6_wantedBy_12 : decode cX6_wantedBy 12 = .ok (.iaload, 1) := by decide +kernel
theorem dX6_wantedBy_13 : decode cX6_wantedBy 13 = .ok (.iconst 2, 1) := by decide +kernel
theorem dX6_wantedBy_14 : decode cX6_wantedBy 14 = .ok (.if_icmp .ge 5, 3) := by decide +kernel
theorem dX6_wantedBy_17 : decode cX6_wantedBy 17 = .ok (.iload_n 2, 1) := by decide +kernel
theorem dX6_wantedBy_18 : decode cX6_wantedBy 18 = .ok (.ireturn, 1) := by decide +kernel
theorem dX6_wantedBy_19 : decode cX6_wantedBy 19 = .ok (.aload_n 0, 1) := by decide +kernel
theorem dX6_wantedBy_20 : decode cX6_wantedBy 20 = .ok (.iload_n 1, 1) := by decide +kernel
theorem dX6_wantedBy_21 : decode cX6_wantedBy 21 = .ok (.iconst 0, 1) := by decide +kernel
theorem dX6_wantedBy_22 : decode cX6_wantedBy 22 = .ok (.invokevirtual 55, 3) := by decide +kernel
theorem dX6_wantedBy_25 : decode cX6_wantedBy 25 = .ok (.iconst 5, 1) := by decide +kernel
theorem dX6_wantedBy_26 : decode cX6_wantedBy 26 = .ok (.if_icmp .ne 7, 3) := by decide +kernel
theorem dX6_wantedBy_29 : decode cX6_wantedBy 29 = .ok (.iconst 1, 1) := by decide +kernel
theorem dX6_wantedBy_30 : decode cX6_wantedBy 30 = .ok (.goto 4, 3) := by decide +kernel
theorem dX6_wantedBy_33 : decode cX6_wantedBy 33 = .ok (.iconst 0, 1) := by decide +kernel
theorem dX6_wantedBy_34 : decode cX6_wantedBy 34 = .ok (.istore_n 3, 1) := by decide +kernel
theorem dX6_wantedBy_35 : decode cX6_wantedBy 35 = .ok (.iload_n 3, 1) := by decide +kernel
theorem dX6_wantedBy_36 : decode cX6_wantedBy 36 = .ok (.ifCond .eq 16, 3) := by decide +kernel
theorem dX6_wantedBy_39 : decode cX6_wantedBy 39 = .ok (.aload_n 0, 1) := by decide +kernel
theorem dX6_wantedBy_40 : decode cX6_wantedBy 40 = .ok (.getfield 37, 3) := by decide +kernel
theorem dX6_wantedBy_43 : decode cX6_wantedBy 43 = .ok (.iload_n 2, 1) := by decide +kernel
theorem dX6_wantedBy_44 : decode cX6_wantedBy 44 = .ok (.iaload, 1) := by decide +kernel
theorem dX6_wantedBy_45 : decode cX6_wantedBy 45 = .ok (.ldc 106, 2) := by decide +kernel
theorem dX6_wantedBy_47 : decode cX6_wantedBy 47 = .ok (.if_icmp .ne 5, 3) := by decide +kernel
theorem dX6_wantedBy_50 : decode cX6_wantedBy 50 = .ok (.iconst (-1), 1) := by decide +kernel
theorem dX6_wantedBy_51 : decode cX6_wantedBy 51 = .ok (.ireturn, 1) := by decide +kernel
theorem dX6_wantedBy_52 : decode cX6_wantedBy 52 = .ok (.iload_n 3, 1) := by decide +kernel
theorem dX6_wantedBy_53 : decode cX6_wantedBy 53 = .ok (.ifCond .eq 21, 3) := by decide +kernel
theorem dX6_wantedBy_56 : decode cX6_wantedBy 56 = .ok (.aload_n 0, 1) := by decide +kernel
theorem dX6_wantedBy_57 : decode cX6_wantedBy 57 = .ok (.getfield 37, 3) := by decide +kernel
theorem dX6_wantedBy_60 : decode cX6_wantedBy 60 = .ok (.iload_n 2, 1) := by decide +kernel
theorem dX6_wantedBy_61 : decode cX6_wantedBy 61 = .ok (.iaload, 1) := by decide +kernel
theorem dX6_wantedBy_62 : decode cX6_wantedBy 62 = .ok (.ifCond .gt 12, 3) := by decide +kernel
theorem dX6_wantedBy_65 : decode cX6_wantedBy 65 = .ok (.aload_n 0, 1) := by decide +kernel
theorem dX6_wantedBy_66 : decode cX6_wantedBy 66 = .ok (.iload_n 1, 1) := by decide +kernel
theorem dX6_wantedBy_67 : decode cX6_wantedBy 67 = .ok (.iconst 4, 1) := by decide +kernel
theorem dX6_wantedBy_68 : decode cX6_wantedBy 68 = .ok (.invokevirtual 55, 3) := by decide +kernel
theorem dX6_wantedBy_71 : decode cX6_wantedBy 71 = .ok (.goto 9, 3) := by decide +kernel
theorem dX6_wantedBy_74 : decode cX6_wantedBy 74 = .ok (.aload_n 0, 1) := by decide +kernel
theorem dX6_wantedBy_75 : decode cX6_wantedBy 75 = .ok (.iload_n 1, 1) := by decide +kernel
theorem dX6_wantedBy_76 : decode cX6_wantedBy 76 = .ok (.iconst 3, 1) := by decide +kernel
theorem dX6_wantedBy_77 : decode cX6_wantedBy 77 = .ok (.invokevirtual 55, 3) := by decide +kernel
theorem dX6_wantedBy_80 : decode cX6_wantedBy 80 = .ok (.istore 4, 2) := by decide +kernel
theorem dX6_wantedBy_82 : decode cX6_wantedBy 82 = .ok (.aload_n 0, 1) := by decide +kernel
theorem dX6_wantedBy_83 : decode cX6_wantedBy 83 = .ok (.getfield 34, 3) := by decide +kernel
theorem dX6_wantedBy_86 : decode cX6_wantedBy 86 = .ok (.iload 4, 2) := by decide +kernel
theorem dX6_wantedBy_88 : decode cX6_wantedBy 88 = .ok (.iaload, 1) := by decide +kernel
theorem dX6_wantedBy_89 : decode cX6_wantedBy 89 = .ok (.iconst 2, 1) := by decide +kernel
theorem dX6_wantedBy_90 : decode cX6_wantedBy 90 = .ok (.if_icmp .ge 8, 3) := by decide +kernel
theorem dX6_wantedBy_93 : decode cX6_wantedBy 93 = .ok (.iload 4, 2) := by decide +kernel
theorem dX6_wantedBy_95 : decode cX6_wantedBy 95 = .ok (.goto 4, 3) := by decide +kernel
theorem dX6_wantedBy_98 : decode cX6_wantedBy 98 = .ok (.iconst (-1), 1) := by decide +kernel
theorem dX6_wantedBy_99 : decode cX6_wantedBy 99 = .ok (.ireturn, 1) := by decide +kernel
theorem dX6_settles_0 : decode cX6_settles 0 = .ok (.aload_n 0, 1) := by decide +kernel
theorem dX6_settles_1 : decode cX6_settles 1 = .ok (.getfield 34, 3) := by decide +kernel
theorem dX6_settles_4 : decode cX6_settles 4 = .ok (.iload_n 1, 1) := by decide +kernel
theorem dX6_settles_5 : decode cX6_settles 5 = .ok (.iconst 2, 1) := by decide +kernel
theorem dX6_settles_6 : decode cX6_settles 6 = .ok (.iastore, 1) := by decide +kernel
theorem dX6_settles_7 : decode cX6_settles 7 = .ok (.aload_n 0, 1) := by decide +kernel
theorem dX6_settles_8 : decode cX6_settles 8 = .ok (.getfield 40, 3) := by decide +kernel
theorem dX6_settles_11 : decode cX6_settles 11 = .ok (.iload_n 1, 1) := by decide +kernel
theorem dX6_settles_12 : decode cX6_settles 12 = .ok (.iconst 0, 1) := by decide +kernel
theorem dX6_settles_13 : decode cX6_settles 13 = .ok (.iastore, 1) := by decide +kernel
theorem dX6_settles_14 : decode cX6_settles 14 = .ok (.aload_n 0, 1) := by decide +kernel
theorem dX6_settles_15 : decode cX6_settles 15 = .ok (.getfield 37, 3) := by decide +kernel
theorem dX6_settles_18 : decode cX6_settles 18 = .ok (.iload_n 1, 1) := by decide +kernel
theorem dX6_settles_19 : decode cX6_settles 19 = .ok (.aload_n 0, 1) := by decide +kernel
theorem dX6_settles_20 : decode cX6_settles 20 = .ok (.iload_n 1, 1) := by decide +kernel
theorem dX6_settles_21 : decode cX6_settles 21 = .ok (.iconst 1, 1) := by decide +kernel
theorem dX6_settles_22 : decode cX6_settles 22 = .ok (.invokevirtual 55, 3) := by decide +kernel
theorem dX6_settles_25 : decode cX6_settles 25 = .ok (.iastore, 1) := by decide +kernel
theorem dX6_settles_26 : decode cX6_settles 26 = .ok (.aload_n 0, 1) := by decide +kernel
theorem dX6_settles_27 : decode cX6_settles 27 = .ok (.iload_n 1, 1) := by decide +kernel
theorem dX6_settles_28 : decode cX6_settles 28 = .ok (.iconst 0, 1) := by decide +kernel
theorem dX6_settles_29 : decode cX6_settles 29 = .ok (.invokevirtual 55, 3) := by decide +kernel
theorem dX6_settles_32 : decode cX6_settles 32 = .ok (.ifCond .le 132, 3) := by decide +kernel
theorem dX6_settles_35 : decode cX6_settles 35 = .ok (.aload_n 0, 1) := by decide +kernel
theorem dX6_settles_36 : decode cX6_settles 36 = .ok (.iload_n 1, 1) := by decide +kernel
theorem dX6_settles_37 : decode cX6_settles 37 = .ok (.iconst 2, 1) := by decide +kernel
theorem dX6_settles_38 : decode cX6_settles 38 = .ok (.invokevirtual 55, 3) := by decide +kernel
theorem dX6_settles_41 : decode cX6_settles 41 = .ok (.istore_n 2, 1) := by decide +kernel
theorem dX6_settles_42 : decode cX6_settles 42 = .ok (.aload_n 0, 1) := by decide +kernel
theorem dX6_settles_43 : decode cX6_settles 43 = .ok (.iload_n 1, 1) := by decide +kernel
theorem dX6_settles_44 : decode cX6_settles 44 = .ok (.iconst 0, 1) := by decide +kernel
theorem dX6_settles_45 : decode cX6_settles 45 = .ok (.invokevirtual 55, 3) := by decide +kernel
theorem dX6_settles_48 : decode cX6_settles 48 = .ok (.iconst 5, 1) := by decide +kernel
theorem dX6_settles_49 : decode cX6_settles 49 = .ok (.if_icmp .ne 7, 3) := by decide +kernel
theorem dX6_settles_52 : decode cX6_settles 52 = .ok (.iconst 1, 1) := by decide +kernel
theorem dX6_settles_53 : decode cX6_settles 53 = .ok (.goto 4, 3) := by decide +kernel
theorem dX6_settles_56 : decode cX6_settles 56 = .ok (.iconst 0, 1) := by decide +kernel
theorem dX6_settles_57 : decode cX6_settles 57 = .ok (.istore_n 3, 1) := by decide +kernel
theorem dX6_settles_58 : decode cX6_settles 58 = .ok (.iload_n 3, 1) := by decide +kernel
theorem dX6_settles_59 : decode cX6_settles 59 = .ok (.ifCond .eq 18, 3) := by decide +kernel
theorem dX6_settles_62 : decode cX6_settles 62 = .ok (.aload_n 0, 1) := by decide +kernel
theorem dX6_settles_63 : decode cX6_settles 63 = .ok (.getfield 37, 3) := by decide +kernel
theorem dX6_settles_66 : decode cX6_settles 66 = .ok (.iload_n 2, 1) := by decide +kernel
theorem dX6_settles_67 : decode cX6_settles 67 = .ok (.iaload, 1) := by decide +kernel
theorem dX6_settles_68 : decode cX6_settles 68 = .ok (.ldc 106, 2) := by decide +kernel
theorem dX6_settles_70 : decode cX6_settles 70 = .ok (.if_icmp .ne 7, 3) := by decide +kernel
theorem dX6_settles_73 : decode cX6_settles 73 = .ok (.iload_n 2, 1) := by decide +kernel
theorem dX6_settles_74 : decode cX6_settles 74 = .ok (.goto 31, 3) := by decide +kernel
theorem dX6_settles_77 : decode cX6_settles 77 = .ok (.iload_n 3, 1) := by decide +kernel
theorem dX6_settles_78 : decode cX6_settles 78 = .ok (.ifCond .eq 21, 3) := by decide +kernel
theorem dX6_settles_81 : decode cX6_settles 81 = .ok (.aload_n 0, 1) := by decide +kernel
theorem dX6_settles_82 : decode cX6_settles 82 = .ok (.getfield 37, 3) := by decide +kernel
theorem dX6_settles_85 : decode cX6_settles 85 = .ok (.iload_n 2, 1) := by decide +kernel
theorem dX6_settles_86 : decode cX6_settles 86 = .ok (.iaload, 1) := by decide +kernel
theorem dX6_settles_87 : decode cX6_settles 87 = .ok (.ifCond .gt 12, 3) := by decide +kernel
theorem dX6_settles_90 : decode cX6_settles 90 = .ok (.aload_n 0, 1) := by decide +kernel
theorem dX6_settles_91 : decode cX6_settles 91 = .ok (.iload_n 1, 1) := by decide +kernel
theorem dX6_settles_92 : decode cX6_settles 92 = .ok (.iconst 4, 1) := by decide +kernel
theorem dX6_settles_93 : decode cX6_settles 93 = .ok (.invokevirtual 55, 3) := by decide +kernel
theorem dX6_settles_96 : decode cX6_settles 96 = .ok (.goto 9, 3) := by decide +kernel
theorem dX6_settles_99 : decode cX6_settles 99 = .ok (.aload_n 0, 1) := by decide +kernel
theorem dX6_settles_100 : decode cX6_settles 100 = .ok (.iload_n 1, 1) := by decide +kernel
theorem dX6_settles_101 : decode cX6_settles 101 = .ok (.iconst 3, 1) := by decide +kernel
theorem dX6_settles_102 : decode cX6_settles 102 = .ok (.invokevirtual 55, 3) := by decide +kernel
theorem dX6_settles_105 : decode cX6_settles 105 = .ok (.istore 4, 2) := by decide +kernel
theorem dX6_settles_107 : decode cX6_settles 107 = .ok (.aload_n 0, 1) := by decide +kernel
theorem dX6_settles_108 : decode cX6_settles 108 = .ok (.getfield 37, 3) := by decide +kernel
theorem dX6_settles_111 : decode cX6_settles 111 = .ok (.iload_n 1, 1) := by decide +kernel
theorem dX6_settles_112 : decode cX6_settles 112 = .ok (.aload_n 0, 1) := by decide +kernel
theorem dX6_settles_113 : decode cX6_settles 113 = .ok (.iload_n 1, 1) := by decide +kernel
theorem dX6_settles_114 : decode cX6_settles 114 = .ok (.iconst 0, 1) := by decide +kernel
theorem dX6_settles_115 : decode cX6_settles 115 = .ok (.invokevirtual 55, 3) := by decide +kernel
theorem dX6_settles_118 : decode cX6_settles 118 = .ok (.aload_n 0, 1) := by decide +kernel
theorem dX6_settles_119 : decode cX6_settles 119 = .ok (.getfield 37, 3) := by decide +kernel
theorem dX6_settles_122 : decode cX6_settles 122 = .ok (.iload_n 2, 1) := by decide +kernel
theorem dX6_settles_123 : decode cX6_settles 123 = .ok (.iaload, 1) := by decide +kernel
theorem dX6_settles_124 : decode cX6_settles 124 = .ok (.aload_n 0, 1) := by decide +kernel
theorem dX6_settles_125 : decode cX6_settles 125 = .ok (.getfield 37, 3) := by decide +kernel
theorem dX6_settles_128 : decode cX6_settles 128 = .ok (.iload 4, 2) := by decide +kernel
theorem dX6_settles_130 : decode cX6_settles 130 = .ok (.iaload, 1) := by decide +kernel
theorem dX6_settles_131 : decode cX6_settles 131 = .ok (.invokestatic 120, 3) := by decide +kernel
theorem dX6_settles_134 : decode cX6_settles 134 = .ok (.iastore, 1) := by decide +kernel
theorem dX6_settles_135 : decode cX6_settles 135 = .ok (.aload_n 0, 1) := by decide +kernel
theorem dX6_settles_136 : decode cX6_settles 136 = .ok (.getfield 40, 3) := by decide +kernel
theorem dX6_settles_139 : decode cX6_settles 139 = .ok (.iload_n 1, 1) := by decide +kernel
theorem dX6_settles_140 : decode cX6_settles 140 = .ok (.aload_n 0, 1) := by decide +kernel
theorem dX6_settles_141 : decode cX6_settles 141 = .ok (.getfield 40, 3) := by decide +kernel
theorem dX6_settles_144 : decode cX6_settles 144 = .ok (.iload_n 2, 1) := by decide +kernel
theorem dX6_settles_145 : decode cX6_settles 145 = .ok (.iaload, 1) := by decide +kernel
theorem dX6_settles_146 : decode cX6_settles 146 = .ok (.aload_n 0, 1) := by decide +kernel
theorem dX6_settles_147 : decode cX6_settles 147 = .ok (.getfield 40, 3) := by decide +kernel
theorem dX6_settles_150 : decode cX6_settles 150 = .ok (.iload 4, 2) := by decide +kernel
theorem dX6_settles_152 : decode cX6_settles 152 = .ok (.iaload, 1) := by decide +kernel
theorem dX6_settles_153 : decode cX6_settles 153 = .ok (.ior, 1) := by decide +kernel
theorem dX6_settles_154 : decode cX6_settles 154 = .ok (.iconst 1, 1) := by decide +kernel
theorem dX6_settles_155 : decode cX6_settles 155 = .ok (.iload_n 2, 1) := by decide +kernel
theorem dX6_settles_156 : decode cX6_settles 156 = .ok (.ishl, 1) := by decide +kernel
theorem dX6_settles_157 : decode cX6_settles 157 = .ok (.ior, 1) := by decide +kernel
theorem dX6_settles_158 : decode cX6_settles 158 = .ok (.iconst 1, 1) := by decide +kernel
theorem dX6_settles_159 : decode cX6_settles 159 = .ok (.iload 4, 2) := by decide +kernel
theorem dX6_settles_161 : decode cX6_settles 161 = .ok (.ishl, 1) := by decide +kernel
theorem dX6_settles_162 : decode cX6_settles 162 = .ok (.ior, 1) := by decide +kernel
theorem dX6_settles_163 : decode cX6_settles 163 = .ok (.iastore, 1) := by decide +kernel
theorem dX6_settles_164 : decode cX6_settles 164 = .ok (.return_, 1) := by decide +kernel
theorem dX6_afresh_0 : decode cX6_afresh 0 = .ok (.iconst 0, 1) := by decide +kernel
theorem dX6_afresh_1 : decode cX6_afresh 1 = .ok (.istore_n 2, 1) := by decide +kernel
theorem dX6_afresh_2 : decode cX6_afresh 2 = .ok (.iload_n 2, 1) := by decide +kernel
theorem dX6_afresh_3 : decode cX6_afresh 3 = .ok (.bipush 10, 2) := by decide +kernel
theorem dX6_afresh_5 : decode cX6_afresh 5 = .ok (.if_icmp .ge 16, 3) := by decide +kernel
theorem dX6_afresh_8 : decode cX6_afresh 8 = .ok (.aload_n 0, 1) := by decide +kernel
theorem dX6_afresh_9 : decode cX6_afresh 9 = .ok (.getfield 34, 3) := by decide +kernel
theorem dX6_afresh_12 : decode cX6_afresh 12 = .ok (.iload_n 2, 1) := by decide +kernel
theorem dX6_afresh_13 : decode cX6_afresh 13 = .ok (.iconst 0, 1) := by decide +kernel
theorem dX6_afresh_14 : decode cX6_afresh 14 = .ok (.iastore, 1) := by decide +kernel
theorem dX6_afresh_15 : decode cX6_afresh 15 = .ok (.iinc 2 1, 3) := by decide +kernel
theorem dX6_afresh_18 : decode cX6_afresh 18 = .ok (.goto (-16), 3) := by decide +kernel
theorem dX6_afresh_21 : decode cX6_afresh 21 = .ok (.aload_n 0, 1) := by decide +kernel
theorem dX6_afresh_22 : decode cX6_afresh 22 = .ok (.iconst 1, 1) := by decide +kernel
theorem dX6_afresh_23 : decode cX6_afresh 23 = .ok (.putfield 88, 3) := by decide +kernel
theorem dX6_afresh_26 : decode cX6_afresh 26 = .ok (.aload_n 0, 1) := by decide +kernel
theorem dX6_afresh_27 : decode cX6_afresh 27 = .ok (.getfield 22, 3) := by decide +kernel
theorem dX6_afresh_30 : decode cX6_afresh 30 = .ok (.iconst 0, 1) := by decide +kernel
theorem dX6_afresh_31 : decode cX6_afresh 31 = .ok (.iload_n 1, 1) := by decide +kernel
theorem dX6_afresh_32 : decode cX6_afresh 32 = .ok (.iastore, 1) := by decide +kernel
theorem dX6_afresh_33 : decode cX6_afresh 33 = .ok (.aload_n 0, 1) := by decide +kernel
theorem dX6_afresh_34 : decode cX6_afresh 34 = .ok (.getfield 34, 3) := by decide +kernel
theorem dX6_afresh_37 : decode cX6_afresh 37 = .ok (.iload_n 1, 1) := by decide +kernel
theorem dX6_afresh_38 : decode cX6_afresh 38 = .ok (.iconst 1, 1) := by decide +kernel
theorem dX6_afresh_39 : decode cX6_afresh 39 = .ok (.iastore, 1) := by decide +kernel
theorem dX6_afresh_40 : decode cX6_afresh 40 = .ok (.aload_n 0, 1) := by decide +kernel
theorem dX6_afresh_41 : decode cX6_afresh 41 = .ok (.getfield 88, 3) := by decide +kernel
theorem dX6_afresh_44 : decode cX6_afresh 44 = .ok (.ifCond .le 98, 3) := by decide +kernel
theorem dX6_afresh_47 : decode cX6_afresh 47 = .ok (.aload_n 0, 1) := by decide +kernel
theorem dX6_afresh_48 : decode cX6_afresh 48 = .ok (.getfield 22, 3) := by decide +kernel
theorem dX6_afresh_51 : decode cX6_afresh 51 = .ok (.aload_n 0, 1) := by decide +kernel
theorem dX6_afresh_52 : decode cX6_afresh 52 = .ok (.getfield 88, 3) := by decide +kernel
theorem dX6_afresh_55 : decode cX6_afresh 55 = .ok (.iconst 1, 1) := by decide +kernel
theorem dX6_afresh_56 : decode cX6_afresh 56 = .ok (.isub, 1) := by decide +kernel
theorem dX6_afresh_57 : decode cX6_afresh 57 = .ok (.iaload, 1) := by decide +kernel
theorem dX6_afresh_58 : decode cX6_afresh 58 = .ok (.istore_n 2, 1) := by decide +kernel
theorem dX6_afresh_59 : decode cX6_afresh 59 = .ok (.aload_n 0, 1) := by decide +kernel
theorem dX6_afresh_60 : decode cX6_afresh 60 = .ok (.iload_n 2, 1) := by decide +kernel
theorem dX6_afresh_61 : decode cX6_afresh 61 = .ok (.iconst 0, 1) := by decide +kernel
theorem dX6_afresh_62 : decode cX6_afresh 62 = .ok (.invokevirtual 55, 3) := by decide +kernel
theorem dX6_afresh_65 : decode cX6_afresh 65 = .ok (.ifCond .ne 7, 3) := by decide +kernel
theorem dX6_afresh_68 : decode cX6_afresh 68 = .ok (.iconst (-1), 1) := by decide +kernel
theorem dX6_afresh_69 : decode cX6_afresh 69 = .ok (.goto 8, 3) := by decide +kernel
theorem dX6_afresh_72 : decode cX6_afresh 72 = .ok (.aload_n 0, 1) := by decide +kernel
theorem dX6_afresh_73 : decode cX6_afresh 73 = .ok (.iload_n 2, 1) := by decide +kernel
theorem dX6_afresh_74 : decode cX6_afresh 74 = .ok (.invokevirtual 153, 3) := by decide +kernel
theorem dX6_afresh_77 : decode cX6_afresh 77 = .ok (.istore_n 3, 1) := by decide +kernel
theorem dX6_afresh_78 : decode cX6_afresh 78 = .ok (.iload_n 3, 1) := by decide +kernel
theorem dX6_afresh_79 : decode cX6_afresh 79 = .ok (.ifCond .ge 21, 3) := by decide +kernel
theorem dX6_afresh_82 : decode cX6_afresh 82 = .ok (.aload_n 0, 1) := by decide +kernel
theorem dX6_afresh_83 : decode cX6_afresh 83 = .ok (.iload_n 2, 1) := by decide +kernel
theorem dX6_afresh_84 : decode cX6_afresh 84 = .ok (.invokevirtual 156, 3) := by decide +kernel
theorem dX6_afresh_87 : decode cX6_afresh 87 = .ok (.aload_n 0, 1) := by decide +kernel
theorem dX6_afresh_88 : decode cX6_afresh 88 = .ok (.dup, 1) := by decide +kernel
theorem dX6_afresh_89 : decode cX6_afresh 89 = .ok (.getfield 88, 3) := by decide +kernel
theorem dX6_afresh_92 : decode cX6_afresh 92 = .ok (.iconst 1, 1) := by decide +kernel
theorem dX6_afresh_93 : decode cX6_afresh 93 = .ok (.isub, 1) := by decide +kernel
theorem dX6_afresh_94 : decode cX6_afresh 94 = .ok (.putfield 88, 3) := by decide +kernel
theorem dX6_afresh_97 : decode cX6_afresh 97 = .ok (.goto 42, 3) := by decide +kernel
theorem dX6_afresh_100 : decode cX6_afresh 100 = .ok (.aload_n 0, 1) := by decide +kernel
theorem dX6_afresh_101 : decode cX6_afresh 101 = .ok (.getfield 34, 3) := by decide +kernel
theorem dX6_afresh_104 : decode cX6_afresh 104 = .ok (.iload_n 3, 1) := by decide +kernel
theorem dX6_afresh_105 : decode cX6_afresh 105 = .ok (.iaload, 1) := by decide +kernel
theorem dX6_afresh_106 : decode cX6_afresh 106 = .ok (.iconst 1, 1) := by decide +kernel
theorem dX6_afresh_107 : decode cX6_afresh 107 = .ok (.if_icmp .ne 5, 3) := by decide +kernel
theorem dX6_afresh_110 : decode cX6_afresh 110 = .ok (.iconst 0, 1) := by decide +kernel
theorem dX6_afresh_111 : decode cX6_afresh 111 = .ok (.ireturn, 1) := by decide +kernel
theorem dX6_afresh_112 : decode cX6_afresh 112 = .ok (.aload_n 0, 1) := by decide +kernel
theorem dX6_afresh_113 : decode cX6_afresh 113 = .ok (.getfield 34, 3) := by decide +kernel
theorem dX6_afresh_116 : decode cX6_afresh 116 = .ok (.iload_n 3, 1) := by decide +kernel
theorem dX6_afresh_117 : decode cX6_afresh 117 = .ok (.iconst 1, 1) := by decide +kernel
theorem dX6_afresh_118 : decode cX6_afresh 118 = .ok (.iastore, 1) := by decide +kernel
theorem dX6_afresh_119 : decode cX6_afresh 119 = .ok (.aload_n 0, 1) := by decide +kernel
theorem dX6_afresh_120 : decode cX6_afresh 120 = .ok (.getfield 22, 3) := by decide +kernel
theorem dX6_afresh_123 : decode cX6_afresh 123 = .ok (.aload_n 0, 1) := by decide +kernel
theorem dX6_afresh_124 : decode cX6_afresh 124 = .ok (.getfield 88, 3) := by decide +kernel
theorem dX6_afresh_127 : decode cX6_afresh 127 = .ok (.iload_n 3, 1) := by decide +kernel
theorem dX6_afresh_128 : decode cX6_afresh 128 = .ok (.iastore, 1) := by decide +kernel
theorem dX6_afresh_129 : decode cX6_afresh 129 = .ok (.aload_n 0, 1) := by decide +kernel
theorem dX6_afresh_130 : decode cX6_afresh 130 = .ok (.dup, 1) := by decide +kernel
theorem dX6_afresh_131 : decode cX6_afresh 131 = .ok (.getfield 88, 3) := by decide +kernel
theorem dX6_afresh_134 : decode cX6_afresh 134 = .ok (.iconst 1, 1) := by decide +kernel
theorem dX6_afresh_135 : decode cX6_afresh 135 = .ok (.iadd, 1) := by decide +kernel
theorem dX6_afresh_136 : decode cX6_afresh 136 = .ok (.putfield 88, 3) := by decide +kernel
theorem dX6_afresh_139 : decode cX6_afresh 139 = .ok (.goto (-99), 3) := by decide +kernel
theorem dX6_afresh_142 : decode cX6_afresh 142 = .ok (.iconst 1, 1) := by decide +kernel
theorem dX6_afresh_143 : decode cX6_afresh 143 = .ok (.ireturn, 1) := by decide +kernel
theorem dX6_told_0 : decode cX6_told 0 = .ok (.aload_n 0, 1) := by decide +kernel
theorem dX6_told_1 : decode cX6_told 1 = .ok (.iload_n 1, 1) := by decide +kernel
theorem dX6_told_2 : decode cX6_told 2 = .ok (.invokevirtual 159, 3) := by decide +kernel
theorem dX6_told_5 : decode cX6_told 5 = .ok (.ifCond .ne 8, 3) := by decide +kernel
theorem dX6_told_8 : decode cX6_told 8 = .ok (.ldc 146, 2) := by decide +kernel
theorem dX6_told_10 : decode cX6_told 10 = .ok (.goto 25, 3) := by decide +kernel
theorem dX6_told_13 : decode cX6_told 13 = .ok (.aload_n 0, 1) := by decide +kernel
theorem dX6_told_14 : decode cX6_told 14 = .ok (.getfield 37, 3) := by decide +kernel
theorem dX6_told_17 : decode cX6_told 17 = .ok (.iload_n 1, 1) := by decide +kernel
theorem dX6_told_18 : decode cX6_told 18 = .ok (.iaload, 1) := by decide +kernel
theorem dX6_told_19 : decode cX6_told 19 = .ok (.ldc 106, 2) := by decide +kernel
theorem dX6_told_21 : decode cX6_told 21 = .ok (.if_icmp .ne 8, 3) := by decide +kernel
theorem dX6_told_24 : decode cX6_told 24 = .ok (.ldc 162, 2) := by decide +kernel
theorem dX6_told_26 : decode cX6_told 26 = .ok (.goto 9, 3) := by decide +kernel
theorem dX6_told_29 : decode cX6_told 29 = .ok (.aload_n 0, 1) := by decide +kernel
theorem dX6_told_30 : decode cX6_told 30 = .ok (.getfield 37, 3) := by decide +kernel
theorem dX6_told_33 : decode cX6_told 33 = .ok (.iload_n 1, 1) := by decide +kernel
theorem dX6_told_34 : decode cX6_told 34 = .ok (.iaload, 1) := by decide +kernel
theorem dX6_told_35 : decode cX6_told 35 = .ok (.ireturn, 1) := by decide +kernel
theorem dX6_fresh_0 : decode cX6_fresh 0 = .ok (.iload_n 1, 1) := by decide +kernel
theorem dX6_fresh_1 : decode cX6_fresh 1 = .ok (.invokestatic 69, 3) := by decide +kernel
theorem dX6_fresh_4 : decode cX6_fresh 4 = .ok (.ifCond .eq 11, 3) := by decide +kernel
theorem dX6_fresh_7 : decode cX6_fresh 7 = .ok (.aload_n 0, 1) := by decide +kernel
theorem dX6_fresh_8 : decode cX6_fresh 8 = .ok (.iload_n 1, 1) := by decide +kernel
theorem dX6_fresh_9 : decode cX6_fresh 9 = .ok (.invokevirtual 163, 3) := by decide +kernel
theorem dX6_fresh_12 : decode cX6_fresh 12 = .ok (.goto 5, 3) := by decide +kernel
theorem dX6_fresh_15 : decode cX6_fresh 15 = .ok (.ldc 50, 2) := by decide +kernel
theorem dX6_fresh_17 : decode cX6_fresh 17 = .ok (.ireturn, 1) := by decide +kernel
theorem dX6_isOne_0 : decode cX6_isOne 0 = .ok (.iload_n 2, 1) := by decide +kernel
theorem dX6_isOne_1 : decode cX6_isOne 1 = .ok (.tableswitch 110 0 3 #[31, 46, 63, 96], 31) := by decide +kernel
theorem dX6_isOne_32 : decode cX6_isOne 32 = .ok (.aload_n 0, 1) := by decide +kernel
theorem dX6_isOne_33 : decode cX6_isOne 33 = .ok (.iload_n 1, 1) := by decide +kernel
theorem dX6_isOne_34 : decode cX6_isOne 34 = .ok (.iconst 0, 1) := by decide +kernel
theorem dX6_isOne_35 : decode cX6_isOne 35 = .ok (.invokevirtual 55, 3) := by decide +kernel
theorem dX6_isOne_38 : decode cX6_isOne 38 = .ok (.ifCond .le 7, 3) := by decide +kernel
theorem dX6_isOne_41 : decode cX6_isOne 41 = .ok (.iconst 1, 1) := by decide +kernel
theorem dX6_isOne_42 : decode cX6_isOne 42 = .ok (.goto 4, 3) := by decide +kernel
theorem dX6_isOne_45 : decode cX6_isOne 45 = .ok (.iconst 0, 1) := by decide +kernel
theorem dX6_isOne_46 : decode cX6_isOne 46 = .ok (.ireturn, 1) := by decide +kernel
theorem dX6_isOne_47 : decode cX6_isOne 47 = .ok (.aload_n 0, 1) := by decide +kernel
theorem dX6_isOne_48 : decode cX6_isOne 48 = .ok (.iload_n 1, 1) := by decide +kernel
theorem dX6_isOne_49 : decode cX6_isOne 49 = .ok (.bipush 6, 2) := by decide +kernel
theorem dX6_isOne_51 : decode cX6_isOne 51 = .ok (.invokevirtual 55, 3) := by decide +kernel
theorem dX6_isOne_54 : decode cX6_isOne 54 = .ok (.iconst 1, 1) := by decide +kernel
theorem dX6_isOne_55 : decode cX6_isOne 55 = .ok (.if_icmp .ne 7, 3) := by decide +kernel
theorem dX6_isOne_58 : decode cX6_isOne 58 = .ok (.iconst 1, 1) := by decide +kernel
theorem dX6_isOne_59 : decode cX6_isOne 59 = .ok (.goto 4, 3) := by decide +kernel
theorem dX6_isOne_62 : decode cX6_isOne 62 = .ok (.iconst 0, 1) := by decide +kernel
theorem dX6_isOne_63 : decode cX6_isOne 63 = .ok (.ireturn, 1) := by decide +kernel
theorem dX6_isOne_64 : decode cX6_isOne 64 = .ok (.aload_n 0, 1) := by decide +kernel
theorem dX6_isOne_65 : decode cX6_isOne 65 = .ok (.iload_n 1, 1) := by decide +kernel
theorem dX6_isOne_66 : decode cX6_isOne 66 = .ok (.bipush 6, 2) := by decide +kernel
theorem dX6_isOne_68 : decode cX6_isOne 68 = .ok (.invokevirtual 55, 3) := by decide +kernel
theorem dX6_isOne_71 : decode cX6_isOne 71 = .ok (.iconst 1, 1) := by decide +kernel
theorem dX6_isOne_72 : decode cX6_isOne 72 = .ok (.if_icmp .ne 23, 3) := by decide +kernel
theorem dX6_isOne_75 : decode cX6_isOne 75 = .ok (.aload_n 0, 1) := by decide +kernel
theorem dX6_isOne_76 : decode cX6_isOne 76 = .ok (.iload_n 1, 1) := by decide +kernel
theorem dX6_isOne_77 : decode cX6_isOne 77 = .ok (.bipush 9, 2) := by decide +kernel
theorem dX6_isOne_79 : decode cX6_isOne 79 = .ok (.invokevirtual 55, 3) := by decide +kernel
theorem dX6_isOne_82 : decode cX6_isOne 82 = .ok (.aload_n 0, 1) := by decide +kernel
theorem dX6_isOne_83 : decode cX6_isOne 83 = .ok (.getfield 7, 3) := by decide +kernel
theorem dX6_isOne_86 : decode cX6_isOne 86 = .ok (.iconst 0, 1) := by decide +kernel
theorem dX6_isOne_87 : decode cX6_isOne 87 = .ok (.iaload, 1) := by decide +kernel
theorem dX6_isOne_88 : decode cX6_isOne 88 = .ok (.if_icmp .ne 7, 3) := by decide +kernel
theorem dX6_isOne_91 : decode cX6_isOne 91 = .ok (.iconst 1, 1) := by decide +kernel
theorem dX6_isOne_92 : decode cX6_isOne 92 = .ok (.goto 4, 3) := by decide +kernel
theorem dX6_isOne_95 : decode cX6_isOne 95 = .ok (.iconst 0, 1) := by decide +kernel
theorem dX6_isOne_96 : decode cX6_isOne 96 = .ok (.ireturn, 1) := by decide +kernel
theorem dX6_isOne_97 : decode cX6_isOne 97 = .ok (.aload_n 0, 1) := by decide +kernel
theorem dX6_isOne_98 : decode cX6_isOne 98 = .ok (.iload_n 1, 1) := by decide +kernel
theorem dX6_isOne_99 : decode cX6_isOne 99 = .ok (.invokevirtual 159, 3) := by decide +kernel
theorem dX6_isOne_102 : decode cX6_isOne 102 = .ok (.ifCond .ne 7, 3) := by decide +kernel
theorem dX6_isOne_105 : decode cX6_isOne 105 = .ok (.iconst 1, 1) := by decide +kernel
theorem dX6_isOne_106 : decode cX6_isOne 106 = .ok (.goto 4, 3) := by decide +kernel
theorem dX6_isOne_109 : decode cX6_isOne 109 = .ok (.iconst 0, 1) := by decide +kernel
theorem dX6_isOne_110 : decode cX6_isOne 110 = .ok (.ireturn, 1) := by decide +kernel
theorem dX6_isOne_111 : decode cX6_isOne 111 = .ok (.aload_n 0, 1) := by decide +kernel
theorem dX6_isOne_112 : decode cX6_isOne 112 = .ok (.iload_n 1, 1) := by decide +kernel
theorem dX6_isOne_113 : decode cX6_isOne 113 = .ok (.invokevirtual 159, 3) := by decide +kernel
theorem dX6_isOne_116 : decode cX6_isOne 116 = .ok (.ifCond .eq 18, 3) := by decide +kernel
theorem dX6_isOne_119 : decode cX6_isOne 119 = .ok (.aload_n 0, 1) := by decide +kernel
theorem dX6_isOne_120 : decode cX6_isOne 120 = .ok (.getfield 37, 3) := by decide +kernel
theorem dX6_isOne_123 : decode cX6_isOne 123 = .ok (.iload_n 1, 1) := by decide +kernel
theorem dX6_isOne_124 : decode cX6_isOne 124 = .ok (.iaload, 1) := by decide +kernel
theorem dX6_isOne_125 : decode cX6_isOne 125 = .ok (.ldc 106, 2) := by decide +kernel
theorem dX6_isOne_127 : decode cX6_isOne 127 = .ok (.if_icmp .ne 7, 3) := by decide +kernel
theorem dX6_isOne_130 : decode cX6_isOne 130 = .ok (.iconst 1, 1) := by decide +kernel
theorem dX6_isOne_131 : decode cX6_isOne 131 = .ok (.goto 4, 3) := by decide +kernel
theorem dX6_isOne_134 : decode cX6_isOne 134 = .ok (.iconst 0, 1) := by decide +kernel
theorem dX6_isOne_135 : decode cX6_isOne 135 = .ok (.ireturn, 1) := by decide +kernel
theorem dX6_which_0 : decode cX6_which 0 = .ok (.iload_n 1, 1) := by decide +kernel
theorem dX6_which_1 : decode cX6_which 1 = .ok (.iconst 0, 1) := by decide +kernel
theorem dX6_which_2 : decode cX6_which 2 = .ok (.iconst 4, 1) := by decide +kernel
theorem dX6_which_3 : decode cX6_which 3 = .ok (.invokestatic 46, 3) := by decide +kernel
theorem dX6_which_6 : decode cX6_which 6 = .ok (.ifCond .ne 6, 3) := by decide +kernel
theorem dX6_which_9 : decode cX6_which 9 = .ok (.ldc 50, 2) := by decide +kernel
theorem dX6_which_11 : decode cX6_which 11 = .ok (.ireturn, 1) := by decide +kernel
theorem dX6_which_12 : decode cX6_which 12 = .ok (.iconst 0, 1) := by decide +kernel
theorem dX6_which_13 : decode cX6_which 13 = .ok (.istore_n 2, 1) := by decide +kernel
theorem dX6_which_14 : decode cX6_which 14 = .ok (.iconst 0, 1) := by decide +kernel
theorem dX6_which_15 : decode cX6_which 15 = .ok (.istore_n 3, 1) := by decide +kernel
theorem dX6_which_16 : decode cX6_which 16 = .ok (.iload_n 3, 1) := by decide +kernel
theorem dX6_which_17 : decode cX6_which 17 = .ok (.bipush 10, 2) := by decide +kernel
theorem dX6_which_19 : decode cX6_which 19 = .ok (.if_icmp .ge 28, 3) := by decide +kernel
theorem dX6_which_22 : decode cX6_which 22 = .ok (.iload_n 2, 1) := by decide +kernel
theorem dX6_which_23 : decode cX6_which 23 = .ok (.aload_n 0, 1) := by decide +kernel
theorem dX6_which_24 : decode cX6_which 24 = .ok (.iload_n 3, 1) := by decide +kernel
theorem dX6_which_25 : decode cX6_which 25 = .ok (.iload_n 1, 1) := by decide +kernel
theorem dX6_which_26 : decode cX6_which 26 = .ok (.invokevirtual 166, 3) := by decide +kernel
theorem dX6_which_29 : decode cX6_which 29 = .ok (.ifCond .eq 9, 3) := by decide +kernel
theorem dX6_which_32 : decode cX6_which 32 = .ok (.iconst 1, 1) := by decide +kernel
theorem dX6_which_33 : decode cX6_which 33 = .ok (.iload_n 3, 1) := by decide +kernel
theorem dX6_which_34 : decode cX6_which 34 = .ok (.ishl, 1) := by decide +kernel
theorem dX6_which_35 : decode cX6_which 35 = .ok (.goto 4, 3) := by decide +kernel
theorem dX6_which_38 : decode cX6_which 38 = .ok (.iconst 0, 1) := by decide +kernel
theorem dX6_which_39 : decode cX6_which 39 = .ok (.ior, 1) := by decide +kernel
theorem dX6_which_40 : decode cX6_which 40 = .ok (.istore_n 2, 1) := by decide +kernel
theorem dX6_which_41 : decode cX6_which 41 = .ok (.iinc 3 1, 3) := by decide +kernel
theorem dX6_which_44 : decode cX6_which 44 = .ok (.goto (-28), 3) := by decide +kernel
theorem dX6_which_47 : decode cX6_which 47 = .ok (.iload_n 2, 1) := by decide +kernel
theorem dX6_which_48 : decode cX6_which 48 = .ok (.ireturn, 1) := by decide +kernel
theorem dX6_used_0 : decode cX6_used 0 = .ok (.iload_n 1, 1) := by decide +kernel
theorem dX6_used_1 : decode cX6_used 1 = .ok (.invokestatic 69, 3) := by decide +kernel
theorem dX6_used_4 : decode cX6_used 4 = .ok (.ifCond .ne 6, 3) := by decide +kernel
theorem dX6_used_7 : decode cX6_used 7 = .ok (.ldc 50, 2) := by decide +kernel
theorem dX6_used_9 : decode cX6_used 9 = .ok (.ireturn, 1) := by decide +kernel
theorem dX6_used_10 : decode cX6_used 10 = .ok (.aload_n 0, 1) := by decide +kernel
theorem dX6_used_11 : decode cX6_used 11 = .ok (.iload_n 1, 1) := by decide +kernel
theorem dX6_used_12 : decode cX6_used 12 = .ok (.invokevirtual 159, 3) := by decide +kernel
theorem dX6_used_15 : decode cX6_used 15 = .ok (.ifCond .eq 12, 3) := by decide +kernel
theorem dX6_used_18 : decode cX6_used 18 = .ok (.aload_n 0, 1) := by decide +kernel
theorem dX6_used_19 : decode cX6_used 19 = .ok (.getfield 40, 3) := by decide +kernel
theorem dX6_used_22 : decode cX6_used 22 = .ok (.iload_n 1, 1) := by decide +kernel
theorem dX6_used_23 : decode cX6_used 23 = .ok (.iaload, 1) := by decide +kernel
theorem dX6_used_24 : decode cX6_used 24 = .ok (.goto 5, 3) := by decide +kernel
theorem dX6_used_27 : decode cX6_used 27 = .ok (.ldc 146, 2) := by decide +kernel
theorem dX6_used_29 : decode cX6_used 29 = .ok (.ireturn, 1) := by decide +kernel
theorem dX6_usedBy_0 : decode cX6_usedBy 0 = .ok (.iload_n 1, 1) := by decide +kernel
theorem dX6_usedBy_1 : decode cX6_usedBy 1 = .ok (.invokestatic 69, 3) := by decide +kernel
theorem dX6_usedBy_4 : decode cX6_usedBy 4 = .ok (.ifCond .ne 6, 3) := by decide +kernel
theorem dX6_usedBy_7 : decode cX6_usedBy 7 = .ok (.ldc 50, 2) := by decide +kernel
theorem dX6_usedBy_9 : decode cX6_usedBy 9 = .ok (.ireturn, 1) := by decide +kernel
theorem dX6_usedBy_10 : decode cX6_usedBy 10 = .ok (.iconst 0, 1) := by decide +kernel
theorem dX6_usedBy_11 : decode cX6_usedBy 11 = .ok (.istore_n 2, 1) := by decide +kernel
theorem dX6_usedBy_12 : decode cX6_usedBy 12 = .ok (.iconst 0, 1) := by decide +kernel
theorem dX6_usedBy_13 : decode cX6_usedBy 13 = .ok (.istore_n 3, 1) := by decide +kernel
theorem dX6_usedBy_14 : decode cX6_usedBy 14 = .ok (.iload_n 3, 1) := by decide +kernel
theorem dX6_usedBy_15 : decode cX6_usedBy 15 = .ok (.bipush 10, 2) := by decide +kernel
theorem dX6_usedBy_17 : decode cX6_usedBy 17 = .ok (.if_icmp .ge 41, 3) := by decide +kernel
theorem dX6_usedBy_20 : decode cX6_usedBy 20 = .ok (.iload_n 2, 1) := by decide +kernel
theorem dX6_usedBy_21 : decode cX6_usedBy 21 = .ok (.aload_n 0, 1) := by decide +kernel
theorem dX6_usedBy_22 : decode cX6_usedBy 22 = .ok (.iload_n 3, 1) := by decide +kernel
theorem dX6_usedBy_23 : decode cX6_usedBy 23 = .ok (.invokevirtual 159, 3) := by decide +kernel
theorem dX6_usedBy_26 : decode cX6_usedBy 26 = .ok (.ifCond .eq 23, 3) := by decide +kernel
theorem dX6_usedBy_29 : decode cX6_usedBy 29 = .ok (.aload_n 0, 1) := by decide +kernel
theorem dX6_usedBy_30 : decode cX6_usedBy 30 = .ok (.getfield 40, 3) := by decide +kernel
theorem dX6_usedBy_33 : decode cX6_usedBy 33 = .ok (.iload_n 3, 1) := by decide +kernel
theorem dX6_usedBy_34 : decode cX6_usedBy 34 = .ok (.iaload, 1) := by decide +kernel
theorem dX6_usedBy_35 : decode cX6_usedBy 35 = .ok (.iload_n 1, 1) := by decide +kernel
theorem dX6_usedBy_36 : decode cX6_usedBy 36 = .ok (.ishr, 1) := by decide +kernel
theorem dX6_usedBy_37 : decode cX6_usedBy 37 = .ok (.iconst 1, 1) := by decide +kernel
theorem dX6_usedBy_38 : decode cX6_usedBy 38 = .ok (.iand, 1) := by decide +kernel
theorem dX6_usedBy_39 : decode cX6_usedBy 39 = .ok (.iconst 1, 1) := by decide +kernel
theorem dX6_usedBy_40 : decode cX6_usedBy 40 = .ok (.if_icmp .ne 9, 3) := by decide +kernel
theorem dX6_usedBy_43 : decode cX6_usedBy 43 = .ok (.iconst 1, 1) := by decide +kernel
theorem dX6_usedBy_44 : decode cX6_usedBy 44 = .ok (.iload_n 3, 1) := by decide +kernel
theorem dX6_usedBy_45 : decode cX6_usedBy 45 = .ok (.ishl, 1) := by decide +kernel
theorem dX6_usedBy_46 : decode cX6_usedBy 46 = .ok (.goto 4, 3) := by decide +kernel
theorem dX6_usedBy_49 : decode cX6_usedBy 49 = .ok (.iconst 0, 1) := by decide +kernel
theorem dX6_usedBy_50 : decode cX6_usedBy 50 = .ok (.ior, 1) := by decide +kernel
theorem dX6_usedBy_51 : decode cX6_usedBy 51 = .ok (.istore_n 2, 1) := by decide +kernel
theorem dX6_usedBy_52 : decode cX6_usedBy 52 = .ok (.iinc 3 1, 3) := by decide +kernel
theorem dX6_usedBy_55 : decode cX6_usedBy 55 = .ok (.goto (-41), 3) := by decide +kernel
theorem dX6_usedBy_58 : decode cX6_usedBy 58 = .ok (.iload_n 2, 1) := by decide +kernel
theorem dX6_usedBy_59 : decode cX6_usedBy 59 = .ok (.ireturn, 1) := by decide +kernel
theorem dX6_would_0 : decode cX6_would 0 = .ok (.iload_n 1, 1) := by decide +kernel
theorem dX6_would_1 : decode cX6_would 1 = .ok (.invokestatic 69, 3) := by decide +kernel
theorem dX6_would_4 : decode cX6_would 4 = .ok (.ifCond .eq 17, 3) := by decide +kernel
theorem dX6_would_7 : decode cX6_would 7 = .ok (.iload_n 2, 1) := by decide +kernel
theorem dX6_would_8 : decode cX6_would 8 = .ok (.invokestatic 73, 3) := by decide +kernel
theorem dX6_would_11 : decode cX6_would 11 = .ok (.ifCond .eq 10, 3) := by decide +kernel
theorem dX6_would_14 : decode cX6_would 14 = .ok (.iload_n 3, 1) := by decide +kernel
theorem dX6_would_15 : decode cX6_would 15 = .ok (.invokestatic 69, 3) := by decide +kernel
theorem dX6_would_18 : decode cX6_would 18 = .ok (.ifCond .ne 6, 3) := by decide +kernel
theorem dX6_would_21 : decode cX6_would 21 = .ok (.ldc 50, 2) := by decide +kernel
theorem dX6_would_23 : decode cX6_would 23 = .ok (.ireturn, 1) := by decide +kernel
theorem dX6_would_24 : decode cX6_would 24 = .ok (.aload_n 0, 1) := by decide +kernel
theorem dX6_would_25 : decode cX6_would 25 = .ok (.invokevirtual 76, 3) := by decide +kernel
theorem dX6_would_28 : decode cX6_would 28 = .ok (.aload_n 0, 1) := by decide +kernel
theorem dX6_would_29 : decode cX6_would 29 = .ok (.iload_n 1, 1) := by decide +kernel
theorem dX6_would_30 : decode cX6_would 30 = .ok (.iconst 0, 1) := by decide +kernel
theorem dX6_would_31 : decode cX6_would 31 = .ok (.iconst 0, 1) := by decide +kernel
theorem dX6_would_32 : decode cX6_would 32 = .ok (.invokevirtual 63, 3) := by decide +kernel
theorem dX6_would_35 : decode cX6_would 35 = .ok (.aload_n 0, 1) := by decide +kernel
theorem dX6_would_36 : decode cX6_would 36 = .ok (.iload_n 1, 1) := by decide +kernel
theorem dX6_would_37 : decode cX6_would 37 = .ok (.iconst 1, 1) := by decide +kernel
theorem dX6_would_38 : decode cX6_would 38 = .ok (.iload_n 2, 1) := by decide +kernel
theorem dX6_would_39 : decode cX6_would 39 = .ok (.invokevirtual 63, 3) := by decide +kernel
theorem dX6_would_42 : decode cX6_would 42 = .ok (.aload_n 0, 1) := by decide +kernel
theorem dX6_would_43 : decode cX6_would 43 = .ok (.iload_n 3, 1) := by decide +kernel
theorem dX6_would_44 : decode cX6_would 44 = .ok (.invokevirtual 163, 3) := by decide +kernel
theorem dX6_would_47 : decode cX6_would 47 = .ok (.istore 4, 2) := by decide +kernel
theorem dX6_would_49 : decode cX6_would 49 = .ok (.aload_n 0, 1) := by decide +kernel
theorem dX6_would_50 : decode cX6_would 50 = .ok (.invokevirtual 143, 3) := by decide +kernel
theorem dX6_would_53 : decode cX6_would 53 = .ok (.iload 4, 2) := by decide +kernel
theorem dX6_would_55 : decode cX6_would 55 = .ok (.ireturn, 1) := by decide +kernel
theorem dX6_count_0 : decode cX6_count 0 = .ok (.iload_n 1, 1) := by decide +kernel
theorem dX6_count_1 : decode cX6_count 1 = .ok (.tableswitch 88 0 9 #[55, 62, 67, 67, 67, 67, 67, 67, 78, 83], 55) := by decide +kernel
theorem dX6_count_56 : decode cX6_count 56 = .ok (.aload_n 0, 1) := by decide +kernel
theorem dX6_count_57 : decode cX6_count 57 = .ok (.getfield 7, 3) := by decide +kernel
theorem dX6_count_60 : decode cX6_count 60 = .ok (.iconst 0, 1) := by decide +kernel
theorem dX6_count_61 : decode cX6_count 61 = .ok (.iaload, 1) := by decide +kernel
theorem dX6_count_62 : decode cX6_count 62 = .ok (.ireturn, 1) := by decide +kernel
theorem dX6_count_63 : decode cX6_count 63 = .ok (.aload_n 0, 1) := by decide +kernel
theorem dX6_count_64 : decode cX6_count 64 = .ok (.invokevirtual 133, 3) := by decide +kernel
theorem dX6_count_67 : decode cX6_count 67 = .ok (.ireturn, 1) := by decide +kernel
theorem dX6_count_68 : decode cX6_count 68 = .ok (.aload_n 0, 1) := by decide +kernel
theorem dX6_count_69 : decode cX6_count 69 = .ok (.getfield 7, 3) := by decide +kernel
theorem dX6_count_72 : decode cX6_count 72 = .ok (.iconst 1, 1) := by decide +kernel
theorem dX6_count_73 : decode cX6_count 73 = .ok (.iload_n 1, 1) := by decide +kernel
theorem dX6_count_74 : decode cX6_count 74 = .ok (.iadd, 1) := by decide +kernel
theorem dX6_count_75 : decode cX6_count 75 = .ok (.iconst 2, 1) := by decide +kernel
theorem dX6_count_76 : decode cX6_count 76 = .ok (.isub, 1) := by decide +kernel
theorem dX6_count_77 : decode cX6_count 77 = .ok (.iaload, 1) := by decide +kernel
theorem dX6_count_78 : decode cX6_count 78 = .ok (.ireturn, 1) := by decide +kernel
theorem dX6_count_79 : decode cX6_count 79 = .ok (.aload_n 0, 1) := by decide +kernel
theorem dX6_count_80 : decode cX6_count 80 = .ok (.getfield 51, 3) := by decide +kernel
theorem dX6_count_83 : decode cX6_count 83 = .ok (.ireturn, 1) := by decide +kernel
theorem dX6_count_84 : decode cX6_count 84 = .ok (.aload_n 0, 1) := by decide +kernel
theorem dX6_count_85 : decode cX6_count 85 = .ok (.getfield 170, 3) := by decide +kernel
theorem dX6_count_88 : decode cX6_count 88 = .ok (.ireturn, 1) := by decide +kernel
theorem dX6_count_89 : decode cX6_count 89 = .ok (.ldc 50, 2) := by decide +kernel
theorem dX6_count_91 : decode cX6_count 91 = .ok (.ireturn, 1) := by decide +kernel
theorem dX6_undo_0 : decode cX6_undo 0 = .ok (.aload_n 0, 1) := by decide +kernel
theorem dX6_undo_1 : decode cX6_undo 1 = .ok (.getfield 51, 3) := by decide +kernel
theorem dX6_undo_4 : decode cX6_undo 4 = .ok (.ifCond .ne 6, 3) := by decide +kernel
theorem dX6_undo_7 : decode cX6_undo 7 = .ok (.ldc 146, 2) := by decide +kernel
theorem dX6_undo_9 : decode cX6_undo 9 = .ok (.ireturn, 1) := by decide +kernel
theorem dX6_undo_10 : decode cX6_undo 10 = .ok (.aload_n 0, 1) := by decide +kernel
theorem dX6_undo_11 : decode cX6_undo 11 = .ok (.dup, 1) := by decide +kernel
theorem dX6_undo_12 : decode cX6_undo 12 = .ok (.getfield 51, 3) := by decide +kernel
theorem dX6_undo_15 : decode cX6_undo 15 = .ok (.iconst 1, 1) := by decide +kernel
theorem dX6_undo_16 : decode cX6_undo 16 = .ok (.isub, 1) := by decide +kernel
theorem dX6_undo_17 : decode cX6_undo 17 = .ok (.putfield 51, 3) := by decide +kernel
theorem dX6_undo_20 : decode cX6_undo 20 = .ok (.iconst 0, 1) := by decide +kernel
theorem dX6_undo_21 : decode cX6_undo 21 = .ok (.istore_n 1, 1) := by decide +kernel
theorem dX6_undo_22 : decode cX6_undo 22 = .ok (.iload_n 1, 1) := by decide +kernel
theorem dX6_undo_23 : decode cX6_undo 23 = .ok (.sipush 158, 3) := by decide +kernel
theorem dX6_undo_26 : decode cX6_undo 26 = .ok (.if_icmp .ge 30, 3) := by decide +kernel
theorem dX6_undo_29 : decode cX6_undo 29 = .ok (.aload_n 0, 1) := by decide +kernel
theorem dX6_undo_30 : decode cX6_undo 30 = .ok (.getfield 7, 3) := by decide +kernel
theorem dX6_undo_33 : decode cX6_undo 33 = .ok (.iload_n 1, 1) := by decide +kernel
theorem dX6_undo_34 : decode cX6_undo 34 = .ok (.aload_n 0, 1) := by decide +kernel
theorem dX6_undo_35 : decode cX6_undo 35 = .ok (.getfield 16, 3) := by decide +kernel
theorem dX6_undo_38 : decode cX6_undo 38 = .ok (.sipush 158, 3) := by decide +kernel
theorem dX6_undo_41 : decode cX6_undo 41 = .ok (.aload_n 0, 1) := by decide +kernel
theorem dX6_undo_42 : decode cX6_undo 42 = .ok (.getfield 51, 3) := by decide +kernel
theorem dX6_undo_45 : decode cX6_undo 45 = .ok (.imul, 1) := by decide +kernel
theorem dX6_undo_46 : decode cX6_undo 46 = .ok (.iload_n 1, 1) := by decide +kernel
theorem dX6_undo_47 : decode cX6_undo 47 = .ok (.iadd, 1) := by decide +kernel
theorem dX6_undo_48 : decode cX6_undo 48 = .ok (.iaload, 1) := by decide +kernel
theorem dX6_undo_49 : decode cX6_undo 49 = .ok (.iastore, 1) := by decide +kernel
theorem dX6_undo_50 : decode cX6_undo 50 = .ok (.iinc 1 1, 3) := by decide +kernel
theorem dX6_undo_53 : decode cX6_undo 53 = .ok (.goto (-31), 3) := by decide +kernel
theorem dX6_undo_56 : decode cX6_undo 56 = .ok (.aload_n 0, 1) := by decide +kernel
theorem dX6_undo_57 : decode cX6_undo 57 = .ok (.getfield 51, 3) := by decide +kernel
theorem dX6_undo_60 : decode cX6_undo 60 = .ok (.ireturn, 1) := by decide +kernel
theorem dX6_type_0 : decode cX6_type 0 = .ok (.iload_n 1, 1) := by decide +kernel
theorem dX6_type_1 : decode cX6_type 1 = .ok (.bipush 32, 2) := by decide +kernel
theorem dX6_type_3 : decode cX6_type 3 = .ok (.bipush 126, 2) := by decide +kernel
theorem dX6_type_5 : decode cX6_type 5 = .ok (.invokestatic 46, 3) := by decide +kernel
theorem dX6_type_8 : decode cX6_type 8 = .ok (.ifCond .ne 6, 3) := by decide +kernel
theorem dX6_type_11 : decode cX6_type 11 = .ok (.ldc 50, 2) := by decide +kernel
theorem dX6_type_13 : decode cX6_type 13 = .ok (.ireturn, 1) := by decide +kernel
theorem dX6_type_14 : decode cX6_type 14 = .ok (.aload_n 0, 1) := by decide +kernel
theorem dX6_type_15 : decode cX6_type 15 = .ok (.getfield 170, 3) := by decide +kernel
theorem dX6_type_18 : decode cX6_type 18 = .ok (.bipush 60, 2) := by decide +kernel
theorem dX6_type_20 : decode cX6_type 20 = .ok (.if_icmp .ne 6, 3) := by decide +kernel
theorem dX6_type_23 : decode cX6_type 23 = .ok (.ldc 162, 2) := by decide +kernel
theorem dX6_type_25 : decode cX6_type 25 = .ok (.ireturn, 1) := by decide +kernel
theorem dX6_type_26 : decode cX6_type 26 = .ok (.aload_n 0, 1) := by decide +kernel
theorem dX6_type_27 : decode cX6_type 27 = .ok (.getfield 19, 3) := by decide +kernel
theorem dX6_type_30 : decode cX6_type 30 = .ok (.aload_n 0, 1) := by decide +kernel
theorem dX6_type_31 : decode cX6_type 31 = .ok (.getfield 170, 3) := by decide +kernel
theorem dX6_type_34 : decode cX6_type 34 = .ok (.iload_n 1, 1) := by decide +kernel
theorem dX6_type_35 : decode cX6_type 35 = .ok (.iastore, 1) := by decide +kernel
theorem dX6_type_36 : decode cX6_type 36 = .ok (.aload_n 0, 1) := by decide +kernel
theorem dX6_type_37 : decode cX6_type 37 = .ok (.dup, 1) := by decide +kernel
theorem dX6_type_38 : decode cX6_type 38 = .ok (.getfield 170, 3) := by decide +kernel
theorem dX6_type_41 : decode cX6_type 41 = .ok (.iconst 1, 1) := by decide +kernel
theorem dX6_type_42 : decode cX6_type 42 = .ok (.iadd, 1) := by decide +kernel
theorem dX6_type_43 : decode cX6_type 43 = .ok (.putfield 170, 3) := by decide +kernel
theorem dX6_type_46 : decode cX6_type 46 = .ok (.aload_n 0, 1) := by decide +kernel
theorem dX6_type_47 : decode cX6_type 47 = .ok (.getfield 170, 3) := by decide +kernel
theorem dX6_type_50 : decode cX6_type 50 = .ok (.ireturn, 1) := by decide +kernel
theorem dX6_clearText_0 : decode cX6_clearText 0 = .ok (.aload_n 0, 1) := by decide +kernel
theorem dX6_clearText_1 : decode cX6_clearText 1 = .ok (.getfield 170, 3) := by decide +kernel
theorem dX6_clearText_4 : decode cX6_clearText 4 = .ok (.istore_n 1, 1) := by decide +kernel
theorem dX6_clearText_5 : decode cX6_clearText 5 = .ok (.aload_n 0, 1) := by decide +kernel
theorem dX6_clearText_6 : decode cX6_clearText 6 = .ok (.iconst 0, 1) := by decide +kernel
theorem dX6_clearText_7 : decode cX6_clearText 7 = .ok (.putfield 170, 3) := by decide +kernel
theorem dX6_clearText_10 : decode cX6_clearText 10 = .ok (.iload_n 1, 1) := by decide +kernel
theorem dX6_clearText_11 : decode cX6_clearText 11 = .ok (.ireturn, 1) := by decide +kernel
theorem dX6_here_0 : decode cX6_here 0 = .ok (.aload_n 0, 1) := by decide +kernel
theorem dX6_here_1 : decode cX6_here 1 = .ok (.getfield 173, 3) := by decide +kernel
theorem dX6_here_4 : decode cX6_here 4 = .ok (.aload_n 0, 1) := by decide +kernel
theorem dX6_here_5 : decode cX6_here 5 = .ok (.getfield 170, 3) := by decide +kernel
theorem dX6_here_8 : decode cX6_here 8 = .ok (.if_icmp .ge 15, 3) := by decide +kernel
theorem dX6_here_11 : decode cX6_here 11 = .ok (.aload_n 0, 1) := by decide +kernel
theorem dX6_here_12 : decode cX6_here 12 = .ok (.getfield 19, 3) := by decide +kernel
theorem dX6_here_15 : decode cX6_here 15 = .ok (.aload_n 0, 1) := by decide +kernel
theorem dX6_here_16 : decode cX6_here 16 = .ok (.getfield 173, 3) := by decide +kernel
theorem dX6_here_19 : decode cX6_here 19 = .ok (.iaload, 1) := by decide +kernel
theorem dX6_here_20 : decode cX6_here 20 = .ok (.goto 4, 3) := by decide +kernel
theorem dX6_here_23 : decode cX6_here 23 = .ok (.iconst (-1), 1) := by decide +kernel
theorem dX6_here_24 : decode cX6_here 24 = .ok (.ireturn, 1) := by decide +kernel
theorem dX6_takes_0 : decode cX6_takes 0 = .ok (.aload_n 0, 1) := by decide +kernel
theorem dX6_takes_1 : decode cX6_takes 1 = .ok (.aload_n 0, 1) := by decide +kernel
theorem dX6_takes_2 : decode cX6_takes 2 = .ok (.getfield 176, 3) := by decide +kernel
theorem dX6_takes_5 : decode cX6_takes 5 = .ok (.ifCond .eq 11, 3) := by decide +kernel
theorem dX6_takes_8 : decode cX6_takes 8 = .ok (.iload_n 1, 1) := by decide +kernel
theorem dX6_takes_9 : decode cX6_takes 9 = .ok (.ifCond .eq 7, 3) := by decide +kernel
theorem dX6_takes_12 : decode cX6_takes 12 = .ok (.iconst 1, 1) := by decide +kernel
theorem dX6_takes_13 : decode cX6_takes 13 = .ok (.goto 4, 3) := by decide +kernel
theorem dX6_takes_16 : decode cX6_takes 16 = .ok (.iconst 0, 1) := by decide +kernel
theorem dX6_takes_17 : decode cX6_takes 17 = .ok (.putfield 176, 3) := by decide +kernel
theorem dX6_takes_20 : decode cX6_takes 20 = .ok (.aload_n 0, 1) := by decide +kernel
theorem dX6_takes_21 : decode cX6_takes 21 = .ok (.dup, 1) := by decide +kernel
theorem dX6_takes_22 : decode cX6_takes 22 = .ok (.getfield 173, 3) := by decide +kernel
theorem dX6_takes_25 : decode cX6_takes 25 = .ok (.aload_n 0, 1) := by decide +kernel
theorem dX6_takes_26 : decode cX6_takes 26 = .ok (.getfield 176, 3) := by decide +kernel
theorem dX6_takes_29 : decode cX6_takes 29 = .ok (.ifCond .eq 7, 3) := by decide +kernel
theorem dX6_takes_32 : decode cX6_takes 32 = .ok (.iconst 1, 1) := by decide +kernel
theorem dX6_takes_33 : decode cX6_takes 33 = .ok (.goto 4, 3) := by decide +kernel
theorem dX6_takes_36 : decode cX6_takes 36 = .ok (.iconst 0, 1) := by decide +kernel
theorem dX6_takes_37 : decode cX6_takes 37 = .ok (.iadd, 1) := by decide +kernel
theorem dX6_takes_38 : decode cX6_takes 38 = .ok (.putfield 173, 3) := by decide +kernel
theorem dX6_takes_41 : decode cX6_takes 41 = .ok (.return_, 1) := by decide +kernel
theorem dX6_readLetter_0 : decode cX6_readLetter 0 = .ok (.aload_n 0, 1) := by decide +kernel
theorem dX6_readLetter_1 : decode cX6_readLetter 1 = .ok (.invokevirtual 179, 3) := by decide +kernel
theorem dX6_readLetter_4 : decode cX6_readLetter 4 = .ok (.istore_n 1, 1) := by decide +kernel
theorem dX6_readLetter_5 : decode cX6_readLetter 5 = .ok (.aload_n 0, 1) := by decide +kernel
theorem dX6_readLetter_6 : decode cX6_readLetter 6 = .ok (.iload_n 1, 1) := by decide +kernel
theorem dX6_readLetter_7 : decode cX6_readLetter 7 = .ok (.bipush 97, 2) := by decide +kernel
theorem dX6_readLetter_9 : decode cX6_readLetter 9 = .ok (.bipush 106, 2) := by decide +kernel
theorem dX6_readLetter_11 : decode cX6_readLetter 11 = .ok (.invokestatic 46, 3) := by decide +kernel
theorem dX6_readLetter_14 : decode cX6_readLetter 14 = .ok (.invokevirtual 182, 3) := by decide +kernel
theorem dX6_readLetter_17 : decode cX6_readLetter 17 = .ok (.iload_n 1, 1) := by decide +kernel
theorem dX6_readLetter_18 : decode cX6_readLetter 18 = .ok (.bipush 97, 2) := by decide +kernel
theorem dX6_readLetter_20 : decode cX6_readLetter 20 = .ok (.isub, 1) := by decide +kernel
theorem dX6_readLetter_21 : decode cX6_readLetter 21 = .ok (.ireturn, 1) := by decide +kernel
theorem dX6_readNumber_0 : decode cX6_readNumber 0 = .ok (.aload_n 0, 1) := by decide +kernel
theorem dX6_readNumber_1 : decode cX6_readNumber 1 = .ok (.invokevirtual 179, 3) := by decide +kernel
theorem dX6_readNumber_4 : decode cX6_readNumber 4 = .ok (.bipush 45, 2) := by decide +kernel
theorem dX6_readNumber_6 : decode cX6_readNumber 6 = .ok (.if_icmp .ne 7, 3) := by decide +kernel
theorem dX6_readNumber_9 : decode cX6_readNumber 9 = .ok (.iconst 1, 1) := by decide +kernel
theorem dX6_readNumber_10 : decode cX6_readNumber 10 = .ok (.goto 4, 3) := by decide +kernel
theorem dX6_readNumber_13 : decode cX6_readNumber 13 = .ok (.iconst 0, 1) := by decide +kernel
theorem dX6_readNumber_14 : decode cX6_readNumber 14 = .ok (.istore_n 1, 1) := by decide +kernel
theorem dX6_readNumber_15 : decode cX6_readNumber 15 = .ok (.aload_n 0, 1) := by decide +kernel
theorem dX6_readNumber_16 : decode cX6_readNumber 16 = .ok (.iconst 1, 1) := by decide +kernel
theorem dX6_readNumber_17 : decode cX6_readNumber 17 = .ok (.invokevirtual 182, 3) := by decide +kernel
theorem dX6_readNumber_20 : decode cX6_readNumber 20 = .ok (.iload_n 1, 1) := by decide +kernel
theorem dX6_readNumber_21 : decode cX6_readNumber 21 = .ok (.ifCond .eq 7, 3) := by decide +kernel
theorem dX6_readNumber_24 : decode cX6_readNumber 24 = .ok (.iconst 0, 1) := by decide +kernel
theorem dX6_readNumber_25 : decode cX6_readNumber 25 = .ok (.goto 17, 3) := by decide +kernel
theorem dX6_readNumber_28 : decode cX6_readNumber 28 = .ok (.aload_n 0, 1) := by decide +kernel
theorem dX6_readNumber_29 : decode cX6_readNumber 29 = .ok (.getfield 19, 3) := by decide +kernel
theorem dX6_readNumber_32 : decode cX6_readNumber 32 = .ok (.aload_n 0, 1) := by decide +kernel
theorem dX6_readNumber_33 : decode cX6_readNumber 33 = .ok (.getfield 173, 3) := by decide +kernel
theorem dX6_readNumber_36 : decode cX6_readNumber 36 = .ok (.iconst 1, 1) := by decide +kernel
theorem dX6_readNumber_37 : decode cX6_readNumber 37 = .ok (.isub, 1) := by decide +kernel
theorem dX6_readNumber_38 : decode cX6_readNumber 38 = .ok (.iaload, 1) := by decide +kernel
theorem dX6_readNumber_39 : decode cX6_readNumber 39 = .ok (.bipush 48, 2) := by decide +kernel
theorem dX6_readNumber_41 : decode cX6_readNumber 41 = .ok (.isub, 1) := by decide +kernel
theorem dX6_readNumber_42 : decode cX6_readNumber 42 = .ok (.istore_n 2, 1) := by decide +kernel
theorem dX6_readNumber_43 : decode cX6_readNumber 43 = .ok (.iload_n 1, 1) := by decide +kernel
theorem dX6_readNumber_44 : decode cX6_readNumber 44 = .ok (.ifCond .eq 7, 3) := by decide +kernel
theorem dX6_readNumber_47 : decode cX6_readNumber 47 = .ok (.iconst 0, 1) := by decide +kernel
theorem dX6_readNumber_48 : decode cX6_readNumber 48 = .ok (.goto 4, 3) := by decide +kernel
theorem dX6_readNumber_51 : decode cX6_readNumber 51 = .ok (.iconst 1, 1) := by decide +kernel
theorem dX6_readNumber_52 : decode cX6_readNumber 52 = .ok (.istore_n 3, 1) := by decide +kernel
theorem dX6_readNumber_53 : decode cX6_readNumber 53 = .ok (.iload_n 3, 1) := by decide +kernel
theorem dX6_readNumber_54 : decode cX6_readNumber 54 = .ok (.iconst 5, 1) := by decide +kernel
theorem dX6_readNumber_55 : decode cX6_readNumber 55 = .ok (.if_icmp .ge 46, 3) := by decide +kernel
theorem dX6_readNumber_58 : decode cX6_readNumber 58 = .ok (.aload_n 0, 1) := by decide +kernel
theorem dX6_readNumber_59 : decode cX6_readNumber 59 = .ok (.invokevirtual 179, 3) := by decide +kernel
theorem dX6_readNumber_62 : decode cX6_readNumber 62 = .ok (.bipush 48, 2) := by decide +kernel
theorem dX6_readNumber_64 : decode cX6_readNumber 64 = .ok (.bipush 57, 2) := by decide +kernel
theorem dX6_readNumber_66 : decode cX6_readNumber 66 = .ok (.invokestatic 46, 3) := by decide +kernel
theorem dX6_readNumber_69 : decode cX6_readNumber 69 = .ok (.ifCond .eq 32, 3) := by decide +kernel
theorem dX6_readNumber_72 : decode cX6_readNumber 72 = .ok (.bipush 10, 2) := by decide +kernel
theorem dX6_readNumber_74 : decode cX6_readNumber 74 = .ok (.iload_n 2, 1) := by decide +kernel
theorem dX6_readNumber_75 : decode cX6_readNumber 75 = .ok (.imul, 1) := by decide +kernel
theorem dX6_readNumber_76 : decode cX6_readNumber 76 = .ok (.aload_n 0, 1) := by decide +kernel
theorem dX6_readNumber_77 : decode cX6_readNumber 77 = .ok (.invokevirtual 179, 3) := by decide +kernel
theorem dX6_readNumber_80 : decode cX6_readNumber 80 = .ok (.iadd, 1) := by decide +kernel
theorem dX6_readNumber_81 : decode cX6_readNumber 81 = .ok (.bipush 48, 2) := by decide +kernel
theorem dX6_readNumber_83 : decode cX6_readNumber 83 = .ok (.isub, 1) := by decide +kernel
theorem dX6_readNumber_84 : decode cX6_readNumber 84 = .ok (.istore_n 2, 1) := by decide +kernel
theorem dX6_readNumber_85 : decode cX6_readNumber 85 = .ok (.iinc 3 1, 3) := by decide +kernel
theorem dX6_readNumber_88 : decode cX6_readNumber 88 = .ok (.aload_n 0, 1) := by decide +kernel
theorem dX6_readNumber_89 : decode cX6_readNumber 89 = .ok (.dup, 1) := by decide +kernel
theorem dX6_readNumber_90 : decode cX6_readNumber 90 = .ok (.getfield 173, 3) := by decide +kernel
theorem dX6_readNumber_93 : decode cX6_readNumber 93 = .ok (.iconst 1, 1) := by decide +kernel
theorem dX6_readNumber_94 : decode cX6_readNumber 94 = .ok (.iadd, 1) := by decide +kernel
theorem dX6_readNumber_95 : decode cX6_readNumber 95 = .ok (.putfield 173, 3) := by decide +kernel
theorem dX6_readNumber_98 : decode cX6_readNumber 98 = .ok (.goto (-45), 3) := by decide +kernel
theorem dX6_readNumber_101 : decode cX6_readNumber 101 = .ok (.aload_n 0, 1) := by decide +kernel
theorem dX6_readNumber_102 : decode cX6_readNumber 102 = .ok (.aload_n 0, 1) := by decide +kernel
theorem dX6_readNumber_103 : decode cX6_readNumber 103 = .ok (.getfield 176, 3) := by decide +kernel
theorem dX6_readNumber_106 : decode cX6_readNumber 106 = .ok (.ifCond .eq 11, 3) := by decide +kernel
theorem dX6_readNumber_109 : decode cX6_readNumber 109 = .ok (.iload_n 3, 1) := by decide +kernel
theorem dX6_readNumber_110 : decode cX6_readNumber 110 = .ok (.ifCond .le 7, 3) := by decide +kernel
theorem dX6_readNumber_113 : decode cX6_readNumber 113 = .ok (.iconst 1, 1) := by decide +kernel
theorem dX6_readNumber_114 : decode cX6_readNumber 114 = .ok (.goto 4, 3) := by decide +kernel
theorem dX6_readNumber_117 : decode cX6_readNumber 117 = .ok (.iconst 0, 1) := by decide +kernel
theorem dX6_readNumber_118 : decode cX6_readNumber 118 = .ok (.putfield 176, 3) := by decide +kernel
theorem dX6_readNumber_121 : decode cX6_readNumber 121 = .ok (.aload_n 0, 1) := by decide +kernel
theorem dX6_readNumber_122 : decode cX6_readNumber 122 = .ok (.getfield 43, 3) := by decide +kernel
theorem dX6_readNumber_125 : decode cX6_readNumber 125 = .ok (.iconst 2, 1) := by decide +kernel
theorem dX6_readNumber_126 : decode cX6_readNumber 126 = .ok (.iload_n 1, 1) := by decide +kernel
theorem dX6_readNumber_127 : decode cX6_readNumber 127 = .ok (.ifCond .eq 8, 3) := by decide +kernel
theorem dX6_readNumber_130 : decode cX6_readNumber 130 = .ok (.iload_n 2, 1) := by decide +kernel
theorem dX6_readNumber_131 : decode cX6_readNumber 131 = .ok (.ineg, 1) := by decide +kernel
theorem dX6_readNumber_132 : decode cX6_readNumber 132 = .ok (.goto 4, 3) := by decide +kernel
theorem dX6_readNumber_135 : decode cX6_readNumber 135 = .ok (.iload_n 2, 1) := by decide +kernel
theorem dX6_readNumber_136 : decode cX6_readNumber 136 = .ok (.iastore, 1) := by decide +kernel
theorem dX6_readNumber_137 : decode cX6_readNumber 137 = .ok (.return_, 1) := by decide +kernel
theorem dX6_kindOf_0 : decode cX6_kindOf 0 = .ok (.iload_n 0, 1) := by decide +kernel
theorem dX6_kindOf_1 : decode cX6_kindOf 1 = .ok (.bipush 43, 2) := by decide +kernel
theorem dX6_kindOf_3 : decode cX6_kindOf 3 = .ok (.if_icmp .ne 7, 3) := by decide +kernel
theorem dX6_kindOf_6 : decode cX6_kindOf 6 = .ok (.iconst 1, 1) := by decide +kernel
theorem dX6_kindOf_7 : decode cX6_kindOf 7 = .ok (.goto 44, 3) := by decide +kernel
theorem dX6_kindOf_10 : decode cX6_kindOf 10 = .ok (.iload_n 0, 1) := by decide +kernel
theorem dX6_kindOf_11 : decode cX6_kindOf 11 = .ok (.bipush 45, 2) := by decide +kernel
theorem dX6_kindOf_13 : decode cX6_kindOf 13 = .ok (.if_icmp .ne 7, 3) := by decide +kernel
theorem dX6_kindOf_16 : decode cX6_kindOf 16 = .ok (.iconst 2, 1) := by decide +kernel
theorem dX6_kindOf_17 : decode cX6_kindOf 17 = .ok (.goto 34, 3) := by decide +kernel
theorem dX6_kindOf_20 : decode cX6_kindOf 20 = .ok (.iload_n 0, 1) := by decide +kernel
theorem dX6_kindOf_21 : decode cX6_kindOf 21 = .ok (.bipush 42, 2) := by decide +kernel
theorem dX6_kindOf_23 : decode cX6_kindOf 23 = .ok (.if_icmp .ne 7, 3) := by decide +kernel
theorem dX6_kindOf_26 : decode cX6_kindOf 26 = .ok (.iconst 3, 1) := by decide +kernel
theorem dX6_kindOf_27 : decode cX6_kindOf 27 = .ok (.goto 24, 3) := by decide +kernel
theorem dX6_kindOf_30 : decode cX6_kindOf 30 = .ok (.iload_n 0, 1) := by decide +kernel
theorem dX6_kindOf_31 : decode cX6_kindOf 31 = .ok (.bipush 94, 2) := by decide +kernel
theorem dX6_kindOf_33 : decode cX6_kindOf 33 = .ok (.if_icmp .ne 7, 3) := by decide +kernel
theorem dX6_kindOf_36 : decode cX6_kindOf 36 = .ok (.iconst 4, 1) := by decide +kernel
theorem dX6_kindOf_37 : decode cX6_kindOf 37 = .ok (.goto 14, 3) := by decide +kernel
theorem dX6_kindOf_40 : decode cX6_kindOf 40 = .ok (.iload_n 0, 1) := by decide +kernel
theorem dX6_kindOf_41 : decode cX6_kindOf 41 = .ok (.bipush 63, 2) := by decide +kernel
theorem dX6_kindOf_43 : decode cX6_kindOf 43 = .ok (.if_icmp .ne 7, 3) := by decide +kernel
theorem dX6_kindOf_46 : decode cX6_kindOf 46 = .ok (.iconst 5, 1) := by decide +kernel
theorem dX6_kindOf_47 : decode cX6_kindOf 47 = .ok (.goto 4, 3) := by decide +kernel
theorem dX6_kindOf_50 : decode cX6_kindOf 50 = .ok (.iconst 0, 1) := by decide +kernel
theorem dX6_kindOf_51 : decode cX6_kindOf 51 = .ok (.ireturn, 1) := by decide +kernel
theorem dX6_readFormula_0 : decode cX6_readFormula 0 = .ok (.aload_n 0, 1) := by decide +kernel
theorem dX6_readFormula_1 : decode cX6_readFormula 1 = .ok (.getfield 43, 3) := by decide +kernel
theorem dX6_readFormula_4 : decode cX6_readFormula 4 = .ok (.iconst 3, 1) := by decide +kernel
theorem dX6_readFormula_5 : decode cX6_readFormula 5 = .ok (.aload_n 0, 1) := by decide +kernel
theorem dX6_readFormula_6 : decode cX6_readFormula 6 = .ok (.invokevirtual 186, 3) := by decide +kernel
theorem dX6_readFormula_9 : decode cX6_readFormula 9 = .ok (.iastore, 1) := by decide +kernel
theorem dX6_readFormula_10 : decode cX6_readFormula 10 = .ok (.aload_n 0, 1) := by decide +kernel
theorem dX6_readFormula_11 : decode cX6_readFormula 11 = .ok (.invokevirtual 179, 3) := by decide +kernel
theorem dX6_readFormula_14 : decode cX6_readFormula 14 = .ok (.invokestatic 189, 3) := by decide +kernel
theorem dX6_readFormula_17 : decode cX6_readFormula 17 = .ok (.istore_n 1, 1) := by decide +kernel
theorem dX6_readFormula_18 : decode cX6_readFormula 18 = .ok (.aload_n 0, 1) := by decide +kernel
theorem dX6_readFormula_19 : decode cX6_readFormula 19 = .ok (.iload_n 1, 1) := by decide +kernel
theorem dX6_readFormula_20 : decode cX6_readFormula 20 = .ok (.ifCond .le 7, 3) := by decide +kernel
theorem dX6_readFormula_23 : decode cX6_readFormula 23 = .ok (.iconst 1, 1) := by decide +kernel
theorem dX6_readFormula_24 : decode cX6_readFormula 24 = .ok (.goto 4, 3) := by decide +kernel
theorem dX6_readFormula_27 : decode cX6_readFormula 27 = .ok (.iconst 0, 1) := by decide +kernel
theorem dX6_readFormula_28 : decode cX6_readFormula 28 = .ok (.invokevirtual 182, 3) := by decide +kernel
theorem dX6_readFormula_31 : decode cX6_readFormula 31 = .ok (.aload_n 0, 1) := by decide +kernel
theorem dX6_readFormula_32 : decode cX6_readFormula 32 = .ok (.getfield 43, 3) := by decide +kernel
theorem dX6_readFormula_35 : decode cX6_readFormula 35 = .ok (.iconst 1, 1) := by decide +kernel
theorem dX6_readFormula_36 : decode cX6_readFormula 36 = .ok (.iload_n 1, 1) := by decide +kernel
theorem dX6_readFormula_37 : decode cX6_readFormula 37 = .ok (.iastore, 1) := by decide +kernel
theorem dX6_readFormula_38 : decode cX6_readFormula 38 = .ok (.aload_n 0, 1) := by decide +kernel
theorem dX6_readFormula_39 : decode cX6_readFormula 39 = .ok (.getfield 43, 3) := by decide +kernel
theorem dX6_readFormula_42 : decode cX6_readFormula 42 = .ok (.iconst 4, 1) := by decide +kernel
theorem dX6_readFormula_43 : decode cX6_readFormula 43 = .ok (.aload_n 0, 1) := by decide +kernel
theorem dX6_readFormula_44 : decode cX6_readFormula 44 = .ok (.invokevirtual 186, 3) := by decide +kernel
theorem dX6_readFormula_47 : decode cX6_readFormula 47 = .ok (.iastore, 1) := by decide +kernel
theorem dX6_readFormula_48 : decode cX6_readFormula 48 = .ok (.iload_n 1, 1) := by decide +kernel
theorem dX6_readFormula_49 : decode cX6_readFormula 49 = .ok (.iconst 5, 1) := by decide +kernel
theorem dX6_readFormula_50 : decode cX6_readFormula 50 = .ok (.if_icmp .ne 31, 3) := by decide +kernel
theorem dX6_readFormula_53 : decode cX6_readFormula 53 = .ok (.aload_n 0, 1) := by decide +kernel
theorem dX6_readFormula_54 : decode cX6_readFormula 54 = .ok (.aload_n 0, 1) := by decide +kernel
theorem dX6_readFormula_55 : decode cX6_readFormula 55 = .ok (.invokevirtual 179, 3) := by decide +kernel
theorem dX6_readFormula_58 : decode cX6_readFormula 58 = .ok (.bipush 58, 2) := by decide +kernel
theorem dX6_readFormula_60 : decode cX6_readFormula 60 = .ok (.if_icmp .ne 7, 3) := by decide +kernel
theorem dX6_readFormula_63 : decode cX6_readFormula 63 = .ok (.iconst 1, 1) := by decide +kernel
theorem dX6_readFormula_64 : decode cX6_readFormula 64 = .ok (.goto 4, 3) := by decide +kernel
theorem dX6_readFormula_67 : decode cX6_readFormula 67 = .ok (.iconst 0, 1) := by decide +kernel
theorem dX6_readFormula_68 : decode cX6_readFormula 68 = .ok (.invokevirtual 182, 3) := by decide +kernel
theorem dX6_readFormula_71 : decode cX6_readFormula 71 = .ok (.aload_n 0, 1) := by decide +kernel
theorem dX6_readFormula_72 : decode cX6_readFormula 72 = .ok (.getfield 43, 3) := by decide +kernel
theorem dX6_readFormula_75 : decode cX6_readFormula 75 = .ok (.iconst 5, 1) := by decide +kernel
theorem dX6_readFormula_76 : decode cX6_readFormula 76 = .ok (.aload_n 0, 1) := by decide +kernel
theorem dX6_readFormula_77 : decode cX6_readFormula 77 = .ok (.invokevirtual 186, 3) := by decide +kernel
theorem dX6_readFormula_80 : decode cX6_readFormula 80 = .ok (.iastore, 1) := by decide +kernel
theorem dX6_readFormula_81 : decode cX6_readFormula 81 = .ok (.return_, 1) := by decide +kernel
theorem dX6_reads_0 : decode cX6_reads 0 = .ok (.aload_n 0, 1) := by decide +kernel
theorem dX6_reads_1 : decode cX6_reads 1 = .ok (.iconst 1, 1) := by decide +kernel
theorem dX6_reads_2 : decode cX6_reads 2 = .ok (.putfield 176, 3) := by decide +kernel
theorem dX6_reads_5 : decode cX6_reads 5 = .ok (.iconst 1, 1) := by decide +kernel
theorem dX6_reads_6 : decode cX6_reads 6 = .ok (.istore_n 1, 1) := by decide +kernel
theorem dX6_reads_7 : decode cX6_reads 7 = .ok (.iload_n 1, 1) := by decide +kernel
theorem dX6_reads_8 : decode cX6_reads 8 = .ok (.bipush 6, 2) := by decide +kernel
theorem dX6_reads_10 : decode cX6_reads 10 = .ok (.if_icmp .ge 16, 3) := by decide +kernel
theorem dX6_reads_13 : decode cX6_reads 13 = .ok (.aload_n 0, 1) := by decide +kernel
theorem dX6_reads_14 : decode cX6_reads 14 = .ok (.getfield 43, 3) := by decide +kernel
theorem dX6_reads_17 : decode cX6_reads 17 = .ok (.iload_n 1, 1) := by decide +kernel
theorem dX6_reads_18 : decode cX6_reads 18 = .ok (.iconst 0, 1) := by decide +kernel
theorem dX6_reads_19 : decode cX6_reads 19 = .ok (.iastore, 1) := by decide +kernel
theorem dX6_reads_20 : decode cX6_reads 20 = .ok (.iinc 1 1, 3) := by decide +kernel
theorem dX6_reads_23 : decode cX6_reads 23 = .ok (.goto (-16), 3) := by decide +kernel
theorem dX6_reads_26 : decode cX6_reads 26 = .ok (.aload_n 0, 1) := by decide +kernel
theorem dX6_reads_27 : decode cX6_reads 27 = .ok (.getfield 43, 3) := by decide +kernel
theorem dX6_reads_30 : decode cX6_reads 30 = .ok (.iconst 0, 1) := by decide +kernel
theorem dX6_reads_31 : decode cX6_reads 31 = .ok (.aload_n 0, 1) := by decide +kernel
theorem dX6_reads_32 : decode cX6_reads 32 = .ok (.invokevirtual 186, 3) := by decide +kernel
theorem dX6_reads_35 : decode cX6_reads 35 = .ok (.iastore, 1) := by decide +kernel
theorem dX6_reads_36 : decode cX6_reads 36 = .ok (.aload_n 0, 1) := by decide +kernel
theorem dX6_reads_37 : decode cX6_reads 37 = .ok (.aload_n 0, 1) := by decide +kernel
theorem dX6_reads_38 : decode cX6_reads 38 = .ok (.invokevirtual 179, 3) := by decide +kernel
theorem dX6_reads_41 : decode cX6_reads 41 = .ok (.bipush 61, 2) := by decide +kernel
theorem dX6_reads_43 : decode cX6_reads 43 = .ok (.if_icmp .ne 7, 3) := by decide +kernel
theorem dX6_reads_46 : decode cX6_reads 46 = .ok (.iconst 1, 1) := by decide +kernel
theorem dX6_reads_47 : decode cX6_reads 47 = .ok (.goto 4, 3) := by decide +kernel
theorem dX6_reads_50 : decode cX6_reads 50 = .ok (.iconst 0, 1) := by decide +kernel
theorem dX6_reads_51 : decode cX6_reads 51 = .ok (.invokevirtual 182, 3) := by decide +kernel
theorem dX6_reads_54 : decode cX6_reads 54 = .ok (.aload_n 0, 1) := by decide +kernel
theorem dX6_reads_55 : decode cX6_reads 55 = .ok (.getfield 176, 3) := by decide +kernel
theorem dX6_reads_58 : decode cX6_reads 58 = .ok (.ifCond .eq 33, 3) := by decide +kernel
theorem dX6_reads_61 : decode cX6_reads 61 = .ok (.aload_n 0, 1) := by decide +kernel
theorem dX6_reads_62 : decode cX6_reads 62 = .ok (.invokevirtual 179, 3) := by decide +kernel
theorem dX6_reads_65 : decode cX6_reads 65 = .ok (.bipush 45, 2) := by decide +kernel
theorem dX6_reads_67 : decode cX6_reads 67 = .ok (.if_icmp .eq 17, 3) := by decide +kernel
theorem dX6_reads_70 : decode cX6_reads 70 = .ok (.aload_n 0, 1) := by decide +kernel
theorem dX6_reads_71 : decode cX6_reads 71 = .ok (.invokevirtual 179, 3) := by decide +kernel
theorem dX6_reads_74 : decode cX6_reads 74 = .ok (.bipush 48, 2) := by decide +kernel
theorem dX6_reads_76 : decode cX6_reads 76 = .ok (.bipush 57, 2) := by decide +kernel
theorem dX6_reads_78 : decode cX6_reads 78 = .ok (.invokestatic 46, 3) := by decide +kernel
theorem dX6_reads_81 : decode cX6_reads 81 = .ok (.ifCond .eq 10, 3) := by decide +kernel
theorem dX6_reads_84 : decode cX6_reads 84 = .ok (.aload_n 0, 1) := by decide +kernel
theorem dX6_reads_85 : decode cX6_reads 85 = .ok (.invokevirtual 192, 3) := by decide +kernel
theorem dX6_reads_88 : decode cX6_reads 88 = .ok (.goto 7, 3) := by decide +kernel
theorem dX6_reads_91 : decode cX6_reads 91 = .ok (.aload_n 0, 1) := by decide +kernel
theorem dX6_reads_92 : decode cX6_reads 92 = .ok (.invokevirtual 195, 3) := by decide +kernel
theorem dX6_reads_95 : decode cX6_reads 95 = .ok (.aload_n 0, 1) := by decide +kernel
theorem dX6_reads_96 : decode cX6_reads 96 = .ok (.aload_n 0, 1) := by decide +kernel
theorem dX6_reads_97 : decode cX6_reads 97 = .ok (.invokevirtual 179, 3) := by decide +kernel
theorem dX6_reads_100 : decode cX6_reads 100 = .ok (.bipush 59, 2) := by decide +kernel
theorem dX6_reads_102 : decode cX6_reads 102 = .ok (.if_icmp .ne 7, 3) := by decide +kernel
theorem dX6_reads_105 : decode cX6_reads 105 = .ok (.iconst 1, 1) := by decide +kernel
theorem dX6_reads_106 : decode cX6_reads 106 = .ok (.goto 4, 3) := by decide +kernel
theorem dX6_reads_109 : decode cX6_reads 109 = .ok (.iconst 0, 1) := by decide +kernel
theorem dX6_reads_110 : decode cX6_reads 110 = .ok (.invokevirtual 182, 3) := by decide +kernel
theorem dX6_reads_113 : decode cX6_reads 113 = .ok (.aload_n 0, 1) := by decide +kernel
theorem dX6_reads_114 : decode cX6_reads 114 = .ok (.getfield 176, 3) := by decide +kernel
theorem dX6_reads_117 : decode cX6_reads 117 = .ok (.ireturn, 1) := by decide +kernel
theorem dX6_brokenAt_0 : decode cX6_brokenAt 0 = .ok (.aload_n 0, 1) := by decide +kernel
theorem dX6_brokenAt_1 : decode cX6_brokenAt 1 = .ok (.iconst 0, 1) := by decide +kernel
theorem dX6_brokenAt_2 : decode cX6_brokenAt 2 = .ok (.putfield 173, 3) := by decide +kernel
theorem dX6_brokenAt_5 : decode cX6_brokenAt 5 = .ok (.aload_n 0, 1) := by decide +kernel
theorem dX6_brokenAt_6 : decode cX6_brokenAt 6 = .ok (.getfield 173, 3) := by decide +kernel
theorem dX6_brokenAt_9 : decode cX6_brokenAt 9 = .ok (.aload_n 0, 1) := by decide +kernel
theorem dX6_brokenAt_10 : decode cX6_brokenAt 10 = .ok (.getfield 170, 3) := by decide +kernel
theorem dX6_brokenAt_13 : decode cX6_brokenAt 13 = .ok (.if_icmp .ge 20, 3) := by decide +kernel
theorem dX6_brokenAt_16 : decode cX6_brokenAt 16 = .ok (.aload_n 0, 1) := by decide +kernel
theorem dX6_brokenAt_17 : decode cX6_brokenAt 17 = .ok (.getfield 173, 3) := by decide +kernel
theorem dX6_brokenAt_20 : decode cX6_brokenAt 20 = .ok (.istore_n 1, 1) := by decide +kernel
theorem dX6_brokenAt_21 : decode cX6_brokenAt 21 = .ok (.aload_n 0, 1) := by decide +kernel
theorem dX6_brokenAt_22 : decode cX6_brokenAt 22 = .ok (.invokevirtual 198, 3) := by decide +kernel
theorem dX6_brokenAt_25 : decode cX6_brokenAt 25 = .ok (.ifCond .ne 5, 3) := by decide +kernel
theorem dX6_brokenAt_28 : decode cX6_brokenAt 28 = .ok (.iload_n 1, 1) := by decide +kernel
theorem dX6_brokenAt_29 : decode cX6_brokenAt 29 = .ok (.ireturn, 1) := by decide +kernel
theorem dX6_brokenAt_30 : decode cX6_brokenAt 30 = .ok (.goto (-25), 3) := by decide +kernel
theorem dX6_brokenAt_33 : decode cX6_brokenAt 33 = .ok (.iconst (-1), 1) := by decide +kernel
theorem dX6_brokenAt_34 : decode cX6_brokenAt 34 = .ok (.ireturn, 1) := by decide +kernel
theorem dX6_fault_0 : decode cX6_fault 0 = .ok (.iload_n 1, 1) := by decide +kernel
theorem dX6_fault_1 : decode cX6_fault 1 = .ok (.iconst 0, 1) := by decide +kernel
theorem dX6_fault_2 : decode cX6_fault 2 = .ok (.iconst 1, 1) := by decide +kernel
theorem dX6_fault_3 : decode cX6_fault 3 = .ok (.invokestatic 46, 3) := by decide +kernel
theorem dX6_fault_6 : decode cX6_fault 6 = .ok (.ifCond .ne 6, 3) := by decide +kernel
theorem dX6_fault_9 : decode cX6_fault 9 = .ok (.ldc 50, 2) := by decide +kernel
theorem dX6_fault_11 : decode cX6_fault 11 = .ok (.ireturn, 1) := by decide +kernel
theorem dX6_fault_12 : decode cX6_fault 12 = .ok (.aload_n 0, 1) := by decide +kernel
theorem dX6_fault_13 : decode cX6_fault 13 = .ok (.invokevirtual 202, 3) := by decide +kernel
theorem dX6_fault_16 : decode cX6_fault 16 = .ok (.istore_n 2, 1) := by decide +kernel
theorem dX6_fault_17 : decode cX6_fault 17 = .ok (.iload_n 2, 1) := by decide +kernel
theorem dX6_fault_18 : decode cX6_fault 18 = .ok (.ifCond .ge 8, 3) := by decide +kernel
theorem dX6_fault_21 : decode cX6_fault 21 = .ok (.ldc 87, 2) := by decide +kernel
theorem dX6_fault_23 : decode cX6_fault 23 = .ok (.goto 17, 3) := by decide +kernel
theorem dX6_fault_26 : decode cX6_fault 26 = .ok (.iload_n 1, 1) := by decide +kernel
theorem dX6_fault_27 : decode cX6_fault 27 = .ok (.ifCond .ne 7, 3) := by decide +kernel
theorem dX6_fault_30 : decode cX6_fault 30 = .ok (.iload_n 2, 1) := by decide +kernel
theorem dX6_fault_31 : decode cX6_fault 31 = .ok (.goto 9, 3) := by decide +kernel
theorem dX6_fault_34 : decode cX6_fault 34 = .ok (.aload_n 0, 1) := by decide +kernel
theorem dX6_fault_35 : decode cX6_fault 35 = .ok (.getfield 173, 3) := by decide +kernel
theorem dX6_fault_38 : decode cX6_fault 38 = .ok (.iload_n 2, 1) := by decide +kernel
theorem dX6_fault_39 : decode cX6_fault 39 = .ok (.isub, 1) := by decide +kernel
theorem dX6_fault_40 : decode cX6_fault 40 = .ok (.ireturn, 1) := by decide +kernel
theorem dX6_play_0 : decode cX6_play 0 = .ok (.aload_n 0, 1) := by decide +kernel
theorem dX6_play_1 : decode cX6_play 1 = .ok (.invokevirtual 202, 3) := by decide +kernel
theorem dX6_play_4 : decode cX6_play 4 = .ok (.ifCond .lt 6, 3) := by decide +kernel
theorem dX6_play_7 : decode cX6_play 7 = .ok (.ldc 146, 2) := by decide +kernel
theorem dX6_play_9 : decode cX6_play 9 = .ok (.ireturn, 1) := by decide +kernel
theorem dX6_play_10 : decode cX6_play 10 = .ok (.aload_n 0, 1) := by decide +kernel
theorem dX6_play_11 : decode cX6_play 11 = .ok (.invokevirtual 76, 3) := by decide +kernel
theorem dX6_play_14 : decode cX6_play 14 = .ok (.aload_n 0, 1) := by decide +kernel
theorem dX6_play_15 : decode cX6_play 15 = .ok (.iconst 0, 1) := by decide +kernel
theorem dX6_play_16 : decode cX6_play 16 = .ok (.putfield 173, 3) := by decide +kernel
theorem dX6_play_19 : decode cX6_play 19 = .ok (.aload_n 0, 1) := by decide +kernel
theorem dX6_play_20 : decode cX6_play 20 = .ok (.getfield 7, 3) := by decide +kernel
theorem dX6_play_23 : decode cX6_play 23 = .ok (.iconst 0, 1) := by decide +kernel
theorem dX6_play_24 : decode cX6_play 24 = .ok (.iaload, 1) := by decide +kernel
theorem dX6_play_25 : decode cX6_play 25 = .ok (.istore_n 1, 1) := by decide +kernel
theorem dX6_play_26 : decode cX6_play 26 = .ok (.aload_n 0, 1) := by decide +kernel
theorem dX6_play_27 : decode cX6_play 27 = .ok (.getfield 173, 3) := by decide +kernel
theorem dX6_play_30 : decode cX6_play 30 = .ok (.aload_n 0, 1) := by decide +kernel
theorem dX6_play_31 : decode cX6_play 31 = .ok (.getfield 170, 3) := by decide +kernel
theorem dX6_play_34 : decode cX6_play 34 = .ok (.if_icmp .ge 58, 3) := by decide +kernel
theorem dX6_play_37 : decode cX6_play 37 = .ok (.aload_n 0, 1) := by decide +kernel
theorem dX6_play_38 : decode cX6_play 38 = .ok (.invokevirtual 198, 3) := by decide +kernel
theorem dX6_play_41 : decode cX6_play 41 = .ok (.ifCond .eq 46, 3) := by decide +kernel
theorem dX6_play_44 : decode cX6_play 44 = .ok (.aload_n 0, 1) := by decide +kernel
theorem dX6_play_45 : decode cX6_play 45 = .ok (.aload_n 0, 1) := by decide +kernel
theorem dX6_play_46 : decode cX6_play 46 = .ok (.getfield 43, 3) := by decide +kernel
theorem dX6_play_49 : decode cX6_play 49 = .ok (.iconst 0, 1) := by decide +kernel
theorem dX6_play_50 : decode cX6_play 50 = .ok (.iaload, 1) := by decide +kernel
theorem dX6_play_51 : decode cX6_play 51 = .ok (.aload_n 0, 1) := by decide +kernel
theorem dX6_play_52 : decode cX6_play 52 = .ok (.getfield 43, 3) := by decide +kernel
theorem dX6_play_55 : decode cX6_play 55 = .ok (.iconst 1, 1) := by decide +kernel
theorem dX6_play_56 : decode cX6_play 56 = .ok (.iaload, 1) := by decide +kernel
theorem dX6_play_57 : decode cX6_play 57 = .ok (.aload_n 0, 1) := by decide +kernel
theorem dX6_play_58 : decode cX6_play 58 = .ok (.getfield 43, 3) := by decide +kernel
theorem dX6_play_61 : decode cX6_play 61 = .ok (.iconst 2, 1) := by decide +kernel
theorem dX6_play_62 : decode cX6_play 62 = .ok (.iaload, 1) := by decide +kernel
theorem dX6_play_63 : decode cX6_play 63 = .ok (.aload_n 0, 1) := by decide +kernel
theorem dX6_play_64 : decode cX6_play 64 = .ok (.getfield 43, 3) := by decide +kernel
theorem dX6_play_67 : decode cX6_play 67 = .ok (.iconst 3, 1) := by decide +kernel
theorem dX6_play_68 : decode cX6_play 68 = .ok (.iaload, 1) := by decide +kernel
theorem dX6_play_69 : decode cX6_play 69 = .ok (.aload_n 0, 1) := by decide +kernel
theorem dX6_play_70 : decode cX6_play 70 = .ok (.getfield 43, 3) := by decide +kernel
theorem dX6_play_73 : decode cX6_play 73 = .ok (.iconst 4, 1) := by decide +kernel
theorem dX6_play_74 : decode cX6_play 74 = .ok (.iaload, 1) := by decide +kernel
theorem dX6_play_75 : decode cX6_play 75 = .ok (.aload_n 0, 1) := by decide +kernel
theorem dX6_play_76 : decode cX6_play 76 = .ok (.getfield 43, 3) := by decide +kernel
theorem dX6_play_79 : decode cX6_play 79 = .ok (.iconst 5, 1) := by decide +kernel
theorem dX6_play_80 : decode cX6_play 80 = .ok (.iaload, 1) := by decide +kernel
theorem dX6_play_81 : decode cX6_play 81 = .ok (.invokevirtual 79, 3) := by decide +kernel
theorem dX6_play_84 : decode cX6_play 84 = .ok (.goto 4, 3) := by decide +kernel
theorem dX6_play_87 : decode cX6_play 87 = .ok (.iload_n 1, 1) := by decide +kernel
theorem dX6_play_88 : decode cX6_play 88 = .ok (.istore_n 1, 1) := by decide +kernel
theorem dX6_play_89 : decode cX6_play 89 = .ok (.goto (-63), 3) := by decide +kernel
theorem dX6_play_92 : decode cX6_play 92 = .ok (.aload_n 0, 1) := by decide +kernel
theorem dX6_play_93 : decode cX6_play 93 = .ok (.iload_n 1, 1) := by decide +kernel
theorem dX6_play_94 : decode cX6_play 94 = .ok (.invokevirtual 83, 3) := by decide +kernel
theorem dX6_play_97 : decode cX6_play 97 = .ok (.ireturn, 1) := by decide +kernel
