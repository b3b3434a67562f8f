theorem dX5_init_0 : decode cX5_init 0 = .ok (.aload_n 0, 1) := by decide +kernel
theorem dX5_init_1 : decode cX5_init 1 = .ok (.invokespecial 1, 3) := by decide +kernel
theorem dX5_init_4 : decode cX5_init 4 = .ok (.aload_n 0, 1) := by decide +kernel
theorem dX5_init_5 : decode cX5_init 5 = .ok (.new 7, 3) := by decide +kernel
theorem dX5_init_8 : decode cX5_init 8 = .ok (.dup, 1) := by decide +kernel
theorem dX5_init_9 : decode cX5_init 9 = .ok (.invokespecial 9, 3) := by decide +kernel
theorem dX5_init_12 : decode cX5_init 12 = .ok (.putfield 10, 3) := by decide +kernel
theorem dX5_init_15 : decode cX5_init 15 = .ok (.aload_n 0, 1) := by decide +kernel
theorem dX5_init_16 : decode cX5_init 16 = .ok (.new 7, 3) := by decide +kernel
theorem dX5_init_19 : decode cX5_init 19 = .ok (.dup, 1) := by decide +kernel
theorem dX5_init_20 : decode cX5_init 20 = .ok (.invokespecial 9, 3) := by decide +kernel
theorem dX5_init_23 : decode cX5_init 23 = .ok (.putfield 16, 3) := by decide +kernel
theorem dX5_init_26 : decode cX5_init 26 = .ok (.aload_n 0, 1) := by decide +kernel
theorem dX5_init_27 : decode cX5_init 27 = .ok (.new 19, 3) := by decide +kernel
theorem dX5_init_30 : decode cX5_init 30 = .ok (.dup, 1) := by decide +kernel
theorem dX5_init_31 : decode cX5_init 31 = .ok (.invokespecial 21, 3) := by decide +kernel
theorem dX5_init_34 : decode cX5_init 34 = .ok (.putfield 22, 3) := by decide +kernel
theorem dX5_init_37 : decode cX5_init 37 = .ok (.aload_n 0, 1) := by decide +kernel
theorem dX5_init_38 : decode cX5_init 38 = .ok (.new 26, 3) := by decide +kernel
theorem dX5_init_41 : decode cX5_init 41 = .ok (.dup, 1) := by decide +kernel
theorem dX5_init_42 : decode cX5_init 42 = .ok (.invokespecial 28, 3) := by decide +kernel
theorem dX5_init_45 : decode cX5_init 45 = .ok (.putfield 29, 3) := by decide +kernel
theorem dX5_init_48 : decode cX5_init 48 = .ok (.aload_n 0, 1) := by decide +kernel
theorem dX5_init_49 : decode cX5_init 49 = .ok (.new 33, 3) := by decide +kernel
theorem dX5_init_52 : decode cX5_init 52 = .ok (.dup, 1) := by decide +kernel
theorem dX5_init_53 : decode cX5_init 53 = .ok (.invokespecial 35, 3) := by decide +kernel
theorem dX5_init_56 : decode cX5_init 56 = .ok (.putfield 36, 3) := by decide +kernel
theorem dX5_init_59 : decode cX5_init 59 = .ok (.return_, 1) := by decide +kernel
theorem dX5_define_0 : decode cX5_define 0 = .ok (.iload_n 1, 1) := by decide +kernel
theorem dX5_define_1 : decode cX5_define 1 = .ok (.invokestatic 40, 3) := by decide +kernel
theorem dX5_define_4 : decode cX5_define 4 = .ok (.ifCond .eq 10, 3) := by decide +kernel
theorem dX5_define_7 : decode cX5_define 7 = .ok (.iload_n 2, 1) := by decide +kernel
theorem dX5_define_8 : decode cX5_define 8 = .ok (.invokestatic 44, 3) := by decide +kernel
theorem dX5_define_11 : decode cX5_define 11 = .ok (.ifCond .ne 6, 3) := by decide +kernel
theorem dX5_define_14 : decode cX5_define 14 = .ok (.ldc 47, 2) := by decide +kernel
theorem dX5_define_16 : decode cX5_define 16 = .ok (.ireturn, 1) := by decide +kernel
theorem dX5_define_17 : decode cX5_define 17 = .ok (.aload_n 0, 1) := by decide +kernel
theorem dX5_define_18 : decode cX5_define 18 = .ok (.getfield 22, 3) := by decide +kernel
theorem dX5_define_21 : decode cX5_define 21 = .ok (.aload_n 0, 1) := by decide +kernel
theorem dX5_define_22 : decode cX5_define 22 = .ok (.getfield 10, 3) := by decide +kernel
theorem dX5_define_25 : decode cX5_define 25 = .ok (.invokevirtual 48, 3) := by decide +kernel
theorem dX5_define_28 : decode cX5_define 28 = .ok (.aload_n 0, 1) := by decide +kernel
theorem dX5_define_29 : decode cX5_define 29 = .ok (.getfield 36, 3) := by decide +kernel
theorem dX5_define_32 : decode cX5_define 32 = .ok (.iload_n 2, 1) := by decide +kernel
theorem dX5_define_33 : decode cX5_define 33 = .ok (.invokevirtual 52, 3) := by decide +kernel
theorem dX5_define_36 : decode cX5_define 36 = .ok (.aload_n 0, 1) := by decide +kernel
theorem dX5_define_37 : decode cX5_define 37 = .ok (.getfield 10, 3) := by decide +kernel
theorem dX5_define_40 : decode cX5_define 40 = .ok (.iload_n 1, 1) := by decide +kernel
theorem dX5_define_41 : decode cX5_define 41 = .ok (.aload_n 0, 1) := by decide +kernel
theorem dX5_define_42 : decode cX5_define 42 = .ok (.getfield 36, 3) := by decide +kernel
theorem dX5_define_45 : decode cX5_define 45 = .ok (.invokevirtual 56, 3) := by decide +kernel
theorem dX5_define_48 : decode cX5_define 48 = .ok (.aload_n 0, 1) := by decide +kernel
theorem dX5_define_49 : decode cX5_define 49 = .ok (.getfield 10, 3) := by decide +kernel
theorem dX5_define_52 : decode cX5_define 52 = .ok (.getfield 60, 3) := by decide +kernel
theorem dX5_define_55 : decode cX5_define 55 = .ok (.ireturn, 1) := by decide +kernel
theorem dX5_formula_0 : decode cX5_formula 0 = .ok (.iload_n 1, 1) := by decide +kernel
theorem dX5_formula_1 : decode cX5_formula 1 = .ok (.invokestatic 40, 3) := by decide +kernel
theorem dX5_formula_4 : decode cX5_formula 4 = .ok (.ifCond .eq 34, 3) := by decide +kernel
theorem dX5_formula_7 : decode cX5_formula 7 = .ok (.iload_n 2, 1) := by decide +kernel
theorem dX5_formula_8 : decode cX5_formula 8 = .ok (.invokestatic 64, 3) := by decide +kernel
theorem dX5_formula_11 : decode cX5_formula 11 = .ok (.ifCond .eq 27, 3) := by decide +kernel
theorem dX5_formula_14 : decode cX5_formula 14 = .ok (.iload_n 3, 1) := by decide +kernel
theorem dX5_formula_15 : decode cX5_formula 15 = .ok (.invokestatic 40, 3) := by decide +kernel
theorem dX5_formula_18 : decode cX5_formula 18 = .ok (.ifCond .eq 20, 3) := by decide +kernel
theorem dX5_formula_21 : decode cX5_formula 21 = .ok (.iload 4, 2) := by decide +kernel
theorem dX5_formula_23 : decode cX5_formula 23 = .ok (.invokestatic 40, 3) := by decide +kernel
theorem dX5_formula_26 : decode cX5_formula 26 = .ok (.ifCond .eq 12, 3) := by decide +kernel
theorem dX5_formula_29 : decode cX5_formula 29 = .ok (.iload_n 2, 1) := by decide +kernel
theorem dX5_formula_30 : decode cX5_formula 30 = .ok (.iload 5, 2) := by decide +kernel
theorem dX5_formula_32 : decode cX5_formula 32 = .ok (.invokestatic 67, 3) := by decide +kernel
theorem dX5_formula_35 : decode cX5_formula 35 = .ok (.ifCond .ne 6, 3) := by decide +kernel
theorem dX5_formula_38 : decode cX5_formula 38 = .ok (.ldc 47, 2) := by decide +kernel
theorem dX5_formula_40 : decode cX5_formula 40 = .ok (.ireturn, 1) := by decide +kernel
theorem dX5_formula_41 : decode cX5_formula 41 = .ok (.aload_n 0, 1) := by decide +kernel
theorem dX5_formula_42 : decode cX5_formula 42 = .ok (.getfield 22, 3) := by decide +kernel
theorem dX5_formula_45 : decode cX5_formula 45 = .ok (.aload_n 0, 1) := by decide +kernel
theorem dX5_formula_46 : decode cX5_formula 46 = .ok (.getfield 10, 3) := by decide +kernel
theorem dX5_formula_49 : decode cX5_formula 49 = .ok (.invokevirtual 48, 3) := by decide +kernel
theorem dX5_formula_52 : decode cX5_formula 52 = .ok (.aload_n 0, 1) := by decide +kernel
theorem dX5_formula_53 : decode cX5_formula 53 = .ok (.getfield 36, 3) := by decide +kernel
theorem dX5_formula_56 : decode cX5_formula 56 = .ok (.iload_n 2, 1) := by decide +kernel
theorem dX5_formula_57 : decode cX5_formula 57 = .ok (.iload_n 3, 1) := by decide +kernel
theorem dX5_formula_58 : decode cX5_formula 58 = .ok (.iload 4, 2) := by decide +kernel
theorem dX5_formula_60 : decode cX5_formula 60 = .ok (.iload 5, 2) := by decide +kernel
theorem dX5_formula_62 : decode cX5_formula 62 = .ok (.invokevirtual 71, 3) := by decide +kernel
theorem dX5_formula_65 : decode cX5_formula 65 = .ok (.aload_n 0, 1) := by decide +kernel
theorem dX5_formula_66 : decode cX5_formula 66 = .ok (.getfield 10, 3) := by decide +kernel
theorem dX5_formula_69 : decode cX5_formula 69 = .ok (.iload_n 1, 1) := by decide +kernel
theorem dX5_formula_70 : decode cX5_formula 70 = .ok (.aload_n 0, 1) := by decide +kernel
theorem dX5_formula_71 : decode cX5_formula 71 = .ok (.getfield 36, 3) := by decide +kernel
theorem dX5_formula_74 : decode cX5_formula 74 = .ok (.invokevirtual 56, 3) := by decide +kernel
theorem dX5_formula_77 : decode cX5_formula 77 = .ok (.aload_n 0, 1) := by decide +kernel
theorem dX5_formula_78 : decode cX5_formula 78 = .ok (.getfield 10, 3) := by decide +kernel
theorem dX5_formula_81 : decode cX5_formula 81 = .ok (.getfield 60, 3) := by decide +kernel
theorem dX5_formula_84 : decode cX5_formula 84 = .ok (.ireturn, 1) := by decide +kernel
theorem dX5_cellOf_0 : decode cX5_cellOf 0 = .ok (.iload_n 1, 1) := by decide +kernel
theorem dX5_cellOf_1 : decode cX5_cellOf 1 = .ok (.invokestatic 40, 3) := by decide +kernel
theorem dX5_cellOf_4 : decode cX5_cellOf 4 = .ok (.ifCond .eq 12, 3) := by decide +kernel
theorem dX5_cellOf_7 : decode cX5_cellOf 7 = .ok (.iload_n 2, 1) := by decide +kernel
theorem dX5_cellOf_8 : decode cX5_cellOf 8 = .ok (.iconst 0, 1) := by decide +kernel
theorem dX5_cellOf_9 : decode cX5_cellOf 9 = .ok (.iconst 4, 1) := by decide +kernel
theorem dX5_cellOf_10 : decode cX5_cellOf 10 = .ok (.invokestatic 75, 3) := by decide +kernel
theorem dX5_cellOf_13 : decode cX5_cellOf 13 = .ok (.ifCond .ne 6, 3) := by decide +kernel
theorem dX5_cellOf_16 : decode cX5_cellOf 16 = .ok (.ldc 47, 2) := by decide +kernel
theorem dX5_cellOf_18 : decode cX5_cellOf 18 = .ok (.ireturn, 1) := by decide +kernel
theorem dX5_cellOf_19 : decode cX5_cellOf 19 = .ok (.aload_n 0, 1) := by decide +kernel
theorem dX5_cellOf_20 : decode cX5_cellOf 20 = .ok (.getfield 10, 3) := by decide +kernel
theorem dX5_cellOf_23 : decode cX5_cellOf 23 = .ok (.getfield 79, 3) := by decide +kernel
theorem dX5_cellOf_26 : decode cX5_cellOf 26 = .ok (.iload_n 1, 1) := by decide +kernel
theorem dX5_cellOf_27 : decode cX5_cellOf 27 = .ok (.aaload, 1) := by decide +kernel
theorem dX5_cellOf_28 : decode cX5_cellOf 28 = .ok (.getfield 83, 3) := by decide +kernel
theorem dX5_cellOf_31 : decode cX5_cellOf 31 = .ok (.astore_n 3, 1) := by decide +kernel
theorem dX5_cellOf_32 : decode cX5_cellOf 32 = .ok (.aload_n 3, 1) := by decide +kernel
theorem dX5_cellOf_33 : decode cX5_cellOf 33 = .ok (.getfield 88, 3) := by decide +kernel
theorem dX5_cellOf_36 : decode cX5_cellOf 36 = .ok (.iconst (-1), 1) := by decide +kernel
theorem dX5_cellOf_37 : decode cX5_cellOf 37 = .ok (.if_icmp .eq 7, 3) := by decide +kernel
theorem dX5_cellOf_40 : decode cX5_cellOf 40 = .ok (.iconst 1, 1) := by decide +kernel
theorem dX5_cellOf_41 : decode cX5_cellOf 41 = .ok (.goto 4, 3) := by decide +kernel
theorem dX5_cellOf_44 : decode cX5_cellOf 44 = .ok (.iconst 0, 1) := by decide +kernel
theorem dX5_cellOf_45 : decode cX5_cellOf 45 = .ok (.istore 4, 2) := by decide +kernel
theorem dX5_cellOf_47 : decode cX5_cellOf 47 = .ok (.iload_n 2, 1) := by decide +kernel
theorem dX5_cellOf_48 : decode cX5_cellOf 48 = .ok (.tableswitch 84 0 3 #[32, 39, 54, 69], 32) := by decide +kernel
theorem dX5_cellOf_80 : decode cX5_cellOf 80 = .ok (.aload_n 3, 1) := by decide +kernel
theorem dX5_cellOf_81 : decode cX5_cellOf 81 = .ok (.getfield 88, 3) := by decide +kernel
theorem dX5_cellOf_84 : decode cX5_cellOf 84 = .ok (.iconst (-1), 1) := by decide +kernel
theorem dX5_cellOf_85 : decode cX5_cellOf 85 = .ok (.isub, 1) := by decide +kernel
theorem dX5_cellOf_86 : decode cX5_cellOf 86 = .ok (.ireturn, 1) := by decide +kernel
theorem dX5_cellOf_87 : decode cX5_cellOf 87 = .ok (.iload 4, 2) := by decide +kernel
theorem dX5_cellOf_89 : decode cX5_cellOf 89 = .ok (.ifCond .eq 8, 3) := by decide +kernel
theorem dX5_cellOf_92 : decode cX5_cellOf 92 = .ok (.ldc 91, 2) := by decide +kernel
theorem dX5_cellOf_94 : decode cX5_cellOf 94 = .ok (.goto 7, 3) := by decide +kernel
theorem dX5_cellOf_97 : decode cX5_cellOf 97 = .ok (.aload_n 3, 1) := by decide +kernel
theorem dX5_cellOf_98 : decode cX5_cellOf 98 = .ok (.getfield 92, 3) := by decide +kernel
theorem dX5_cellOf_101 : decode cX5_cellOf 101 = .ok (.ireturn, 1) := by decide +kernel
theorem dX5_cellOf_102 : decode cX5_cellOf 102 = .ok (.iload 4, 2) := by decide +kernel
theorem dX5_cellOf_104 : decode cX5_cellOf 104 = .ok (.ifCond .eq 10, 3) := by decide +kernel
theorem dX5_cellOf_107 : decode cX5_cellOf 107 = .ok (.aload_n 3, 1) := by decide +kernel
theorem dX5_cellOf_108 : decode cX5_cellOf 108 = .ok (.getfield 95, 3) := by decide +kernel
theorem dX5_cellOf_111 : decode cX5_cellOf 111 = .ok (.goto 5, 3) := by decide +kernel
theorem dX5_cellOf_114 : decode cX5_cellOf 114 = .ok (.ldc 91, 2) := by decide +kernel
theorem dX5_cellOf_116 : decode cX5_cellOf 116 = .ok (.ireturn, 1) := by decide +kernel
theorem dX5_cellOf_117 : decode cX5_cellOf 117 = .ok (.iload 4, 2) := by decide +kernel
theorem dX5_cellOf_119 : decode cX5_cellOf 119 = .ok (.ifCond .eq 10, 3) := by decide +kernel
theorem dX5_cellOf_122 : decode cX5_cellOf 122 = .ok (.aload_n 3, 1) := by decide +kernel
theorem dX5_cellOf_123 : decode cX5_cellOf 123 = .ok (.getfield 98, 3) := by decide +kernel
theorem dX5_cellOf_126 : decode cX5_cellOf 126 = .ok (.goto 5, 3) := by decide +kernel
theorem dX5_cellOf_129 : decode cX5_cellOf 129 = .ok (.ldc 91, 2) := by decide +kernel
theorem dX5_cellOf_131 : decode cX5_cellOf 131 = .ok (.ireturn, 1) := by decide +kernel
theorem dX5_cellOf_132 : decode cX5_cellOf 132 = .ok (.aload_n 3, 1) := by decide +kernel
theorem dX5_cellOf_133 : decode cX5_cellOf 133 = .ok (.getfield 88, 3) := by decide +kernel
theorem dX5_cellOf_136 : decode cX5_cellOf 136 = .ok (.iconst 4, 1) := by decide +kernel
theorem dX5_cellOf_137 : decode cX5_cellOf 137 = .ok (.if_icmp .ne 10, 3) := by decide +kernel
theorem dX5_cellOf_140 : decode cX5_cellOf 140 = .ok (.aload_n 3, 1) := by decide +kernel
theorem dX5_cellOf_141 : decode cX5_cellOf 141 = .ok (.getfield 101, 3) := by decide +kernel
theorem dX5_cellOf_144 : decode cX5_cellOf 144 = .ok (.goto 5, 3) := by decide +kernel
theorem dX5_cellOf_147 : decode cX5_cellOf 147 = .ok (.ldc 91, 2) := by decide +kernel
theorem dX5_cellOf_149 : decode cX5_cellOf 149 = .ok (.ireturn, 1) := by decide +kernel
theorem dX5_ask_0 : decode cX5_ask 0 = .ok (.iload_n 1, 1) := by decide +kernel
theorem dX5_ask_1 : decode cX5_ask 1 = .ok (.invokestatic 40, 3) := by decide +kernel
theorem dX5_ask_4 : decode cX5_ask 4 = .ok (.ifCond .ne 6, 3) := by decide +kernel
theorem dX5_ask_7 : decode cX5_ask 7 = .ok (.ldc 47, 2) := by decide +kernel
theorem dX5_ask_9 : decode cX5_ask 9 = .ok (.ireturn, 1) := by decide +kernel
theorem dX5_ask_10 : decode cX5_ask 10 = .ok (.aload_n 0, 1) := by decide +kernel
theorem dX5_ask_11 : decode cX5_ask 11 = .ok (.getfield 16, 3) := by decide +kernel
theorem dX5_ask_14 : decode cX5_ask 14 = .ok (.aload_n 0, 1) := by decide +kernel
theorem dX5_ask_15 : decode cX5_ask 15 = .ok (.getfield 10, 3) := by decide +kernel
theorem dX5_ask_18 : decode cX5_ask 18 = .ok (.invokevirtual 104, 3) := by decide +kernel
theorem dX5_ask_21 : decode cX5_ask 21 = .ok (.aload_n 0, 1) := by decide +kernel
theorem dX5_ask_22 : decode cX5_ask 22 = .ok (.getfield 16, 3) := by decide +kernel
theorem dX5_ask_25 : decode cX5_ask 25 = .ok (.iload_n 1, 1) := by decide +kernel
theorem dX5_ask_26 : decode cX5_ask 26 = .ok (.invokevirtual 107, 3) := by decide +kernel
theorem dX5_ask_29 : decode cX5_ask 29 = .ok (.ifCond .ne 6, 3) := by decide +kernel
theorem dX5_ask_32 : decode cX5_ask 32 = .ok (.ldc 110, 2) := by decide +kernel
theorem dX5_ask_34 : decode cX5_ask 34 = .ok (.ireturn, 1) := by decide +kernel
theorem dX5_ask_35 : decode cX5_ask 35 = .ok (.aload_n 0, 1) := by decide +kernel
theorem dX5_ask_36 : decode cX5_ask 36 = .ok (.getfield 16, 3) := by decide +kernel
theorem dX5_ask_39 : decode cX5_ask 39 = .ok (.getfield 79, 3) := by decide +kernel
theorem dX5_ask_42 : decode cX5_ask 42 = .ok (.iload_n 1, 1) := by decide +kernel
theorem dX5_ask_43 : decode cX5_ask 43 = .ok (.aaload, 1) := by decide +kernel
theorem dX5_ask_44 : decode cX5_ask 44 = .ok (.invokevirtual 111, 3) := by decide +kernel
theorem dX5_ask_47 : decode cX5_ask 47 = .ok (.istore_n 2, 1) := by decide +kernel
theorem dX5_ask_48 : decode cX5_ask 48 = .ok (.aload_n 0, 1) := by decide +kernel
theorem dX5_ask_49 : decode cX5_ask 49 = .ok (.getfield 16, 3) := by decide +kernel
theorem dX5_ask_52 : decode cX5_ask 52 = .ok (.invokevirtual 115, 3) := by decide +kernel
theorem dX5_ask_55 : decode cX5_ask 55 = .ok (.aload_n 0, 1) := by decide +kernel
theorem dX5_ask_56 : decode cX5_ask 56 = .ok (.getfield 22, 3) := by decide +kernel
theorem dX5_ask_59 : decode cX5_ask 59 = .ok (.aload_n 0, 1) := by decide +kernel
theorem dX5_ask_60 : decode cX5_ask 60 = .ok (.getfield 10, 3) := by decide +kernel
theorem dX5_ask_63 : decode cX5_ask 63 = .ok (.invokevirtual 48, 3) := by decide +kernel
theorem dX5_ask_66 : decode cX5_ask 66 = .ok (.aload_n 0, 1) := by decide +kernel
theorem dX5_ask_67 : decode cX5_ask 67 = .ok (.getfield 10, 3) := by decide +kernel
theorem dX5_ask_70 : decode cX5_ask 70 = .ok (.aload_n 0, 1) := by decide +kernel
theorem dX5_ask_71 : decode cX5_ask 71 = .ok (.getfield 16, 3) := by decide +kernel
theorem dX5_ask_74 : decode cX5_ask 74 = .ok (.invokevirtual 104, 3) := by decide +kernel
theorem dX5_ask_77 : decode cX5_ask 77 = .ok (.iload_n 2, 1) := by decide +kernel
theorem dX5_ask_78 : decode cX5_ask 78 = .ok (.ireturn, 1) := by decide +kernel
theorem dX5_fresh_0 : decode cX5_fresh 0 = .ok (.iload_n 1, 1) := by decide +kernel
theorem dX5_fresh_1 : decode cX5_fresh 1 = .ok (.invokestatic 40, 3) := by decide +kernel
theorem dX5_fresh_4 : decode cX5_fresh 4 = .ok (.ifCond .ne 6, 3) := by decide +kernel
theorem dX5_fresh_7 : decode cX5_fresh 7 = .ok (.ldc 47, 2) := by decide +kernel
theorem dX5_fresh_9 : decode cX5_fresh 9 = .ok (.ireturn, 1) := by decide +kernel
theorem dX5_fresh_10 : decode cX5_fresh 10 = .ok (.aload_n 0, 1) := by decide +kernel
theorem dX5_fresh_11 : decode cX5_fresh 11 = .ok (.getfield 16, 3) := by decide +kernel
theorem dX5_fresh_14 : decode cX5_fresh 14 = .ok (.aload_n 0, 1) := by decide +kernel
theorem dX5_fresh_15 : decode cX5_fresh 15 = .ok (.getfield 10, 3) := by decide +kernel
theorem dX5_fresh_18 : decode cX5_fresh 18 = .ok (.invokevirtual 104, 3) := by decide +kernel
theorem dX5_fresh_21 : decode cX5_fresh 21 = .ok (.aload_n 0, 1) := by decide +kernel
theorem dX5_fresh_22 : decode cX5_fresh 22 = .ok (.iload_n 1, 1) := by decide +kernel
theorem dX5_fresh_23 : decode cX5_fresh 23 = .ok (.invokevirtual 118, 3) := by decide +kernel
theorem dX5_fresh_26 : decode cX5_fresh 26 = .ok (.ireturn, 1) := by decide +kernel
theorem dX5_forget_0 : decode cX5_forget 0 = .ok (.iload_n 1, 1) := by decide +kernel
theorem dX5_forget_1 : decode cX5_forget 1 = .ok (.invokestatic 40, 3) := by decide +kernel
theorem dX5_forget_4 : decode cX5_forget 4 = .ok (.ifCond .ne 6, 3) := by decide +kernel
theorem dX5_forget_7 : decode cX5_forget 7 = .ok (.ldc 47, 2) := by decide +kernel
theorem dX5_forget_9 : decode cX5_forget 9 = .ok (.ireturn, 1) := by decide +kernel
theorem dX5_forget_10 : decode cX5_forget 10 = .ok (.aload_n 0, 1) := by decide +kernel
theorem dX5_forget_11 : decode cX5_forget 11 = .ok (.getfield 10, 3) := by decide +kernel
theorem dX5_forget_14 : decode cX5_forget 14 = .ok (.getfield 79, 3) := by decide +kernel
theorem dX5_forget_17 : decode cX5_forget 17 = .ok (.iload_n 1, 1) := by decide +kernel
theorem dX5_forget_18 : decode cX5_forget 18 = .ok (.aaload, 1) := by decide +kernel
theorem dX5_forget_19 : decode cX5_forget 19 = .ok (.getfield 131, 3) := by decide +kernel
theorem dX5_forget_22 : decode cX5_forget 22 = .ok (.ifCond .ne 6, 3) := by decide +kernel
theorem dX5_forget_25 : decode cX5_forget 25 = .ok (.ldc 110, 2) := by decide +kernel
theorem dX5_forget_27 : decode cX5_forget 27 = .ok (.ireturn, 1) := by decide +kernel
theorem dX5_forget_28 : decode cX5_forget 28 = .ok (.aload_n 0, 1) := by decide +kernel
theorem dX5_forget_29 : decode cX5_forget 29 = .ok (.getfield 22, 3) := by decide +kernel
theorem dX5_forget_32 : decode cX5_forget 32 = .ok (.aload_n 0, 1) := by decide +kernel
theorem dX5_forget_33 : decode cX5_forget 33 = .ok (.getfield 10, 3) := by decide +kernel
theorem dX5_forget_36 : decode cX5_forget 36 = .ok (.invokevirtual 48, 3) := by decide +kernel
theorem dX5_forget_39 : decode cX5_forget 39 = .ok (.aload_n 0, 1) := by decide +kernel
theorem dX5_forget_40 : decode cX5_forget 40 = .ok (.getfield 10, 3) := by decide +kernel
theorem dX5_forget_43 : decode cX5_forget 43 = .ok (.iload_n 1, 1) := by decide +kernel
theorem dX5_forget_44 : decode cX5_forget 44 = .ok (.invokevirtual 135, 3) := by decide +kernel
theorem dX5_forget_47 : decode cX5_forget 47 = .ok (.aload_n 0, 1) := by decide +kernel
theorem dX5_forget_48 : decode cX5_forget 48 = .ok (.getfield 10, 3) := by decide +kernel
theorem dX5_forget_51 : decode cX5_forget 51 = .ok (.invokevirtual 138, 3) := by decide +kernel
theorem dX5_forget_54 : decode cX5_forget 54 = .ok (.ireturn, 1) := by decide +kernel
theorem dX5_bound_0 : decode cX5_bound 0 = .ok (.iload_n 1, 1) := by decide +kernel
theorem dX5_bound_1 : decode cX5_bound 1 = .ok (.iconst 0, 1) := by decide +kernel
theorem dX5_bound_2 : decode cX5_bound 2 = .ok (.bipush 10, 2) := by decide +kernel
theorem dX5_bound_4 : decode cX5_bound 4 = .ok (.invokestatic 75, 3) := by decide +kernel
theorem dX5_bound_7 : decode cX5_bound 7 = .ok (.ifCond .ne 6, 3) := by decide +kernel
theorem dX5_bound_10 : decode cX5_bound 10 = .ok (.ldc 47, 2) := by decide +kernel
theorem dX5_bound_12 : decode cX5_bound 12 = .ok (.ireturn, 1) := by decide +kernel
theorem dX5_bound_13 : decode cX5_bound 13 = .ok (.aload_n 0, 1) := by decide +kernel
theorem dX5_bound_14 : decode cX5_bound 14 = .ok (.getfield 22, 3) := by decide +kernel
theorem dX5_bound_17 : decode cX5_bound 17 = .ok (.aload_n 0, 1) := by decide +kernel
theorem dX5_bound_18 : decode cX5_bound 18 = .ok (.getfield 10, 3) := by decide +kernel
theorem dX5_bound_21 : decode cX5_bound 21 = .ok (.invokevirtual 48, 3) := by decide +kernel
theorem dX5_bound_24 : decode cX5_bound 24 = .ok (.aload_n 0, 1) := by decide +kernel
theorem dX5_bound_25 : decode cX5_bound 25 = .ok (.getfield 10, 3) := by decide +kernel
theorem dX5_bound_28 : decode cX5_bound 28 = .ok (.getfield 141, 3) := by decide +kernel
theorem dX5_bound_31 : decode cX5_bound 31 = .ok (.istore_n 2, 1) := by decide +kernel
theorem dX5_bound_32 : decode cX5_bound 32 = .ok (.aload_n 0, 1) := by decide +kernel
theorem dX5_bound_33 : decode cX5_bound 33 = .ok (.getfield 10, 3) := by decide +kernel
theorem dX5_bound_36 : decode cX5_bound 36 = .ok (.iload_n 1, 1) := by decide +kernel
theorem dX5_bound_37 : decode cX5_bound 37 = .ok (.putfield 141, 3) := by decide +kernel
theorem dX5_bound_40 : decode cX5_bound 40 = .ok (.iload_n 2, 1) := by decide +kernel
theorem dX5_bound_41 : decode cX5_bound 41 = .ok (.ireturn, 1) := by decide +kernel
theorem dX5_rememberedOf_0 : decode cX5_rememberedOf 0 = .ok (.iload_n 1, 1) := by decide +kernel
theorem dX5_rememberedOf_1 : decode cX5_rememberedOf 1 = .ok (.invokestatic 40, 3) := by decide +kernel
theorem dX5_rememberedOf_4 : decode cX5_rememberedOf 4 = .ok (.ifCond .eq 13, 3) := by decide +kernel
theorem dX5_rememberedOf_7 : decode cX5_rememberedOf 7 = .ok (.iload_n 2, 1) := by decide +kernel
theorem dX5_rememberedOf_8 : decode cX5_rememberedOf 8 = .ok (.iconst 0, 1) := by decide +kernel
theorem dX5_rememberedOf_9 : decode cX5_rememberedOf 9 = .ok (.bipush 6, 2) := by decide +kernel
theorem dX5_rememberedOf_11 : decode cX5_rememberedOf 11 = .ok (.invokestatic 75, 3) := by decide +kernel
theorem dX5_rememberedOf_14 : decode cX5_rememberedOf 14 = .ok (.ifCond .ne 6, 3) := by decide +kernel
theorem dX5_rememberedOf_17 : decode cX5_rememberedOf 17 = .ok (.ldc 47, 2) := by decide +kernel
theorem dX5_rememberedOf_19 : decode cX5_rememberedOf 19 = .ok (.ireturn, 1) := by decide +kernel
theorem dX5_rememberedOf_20 : decode cX5_rememberedOf 20 = .ok (.aload_n 0, 1) := by decide +kernel
theorem dX5_rememberedOf_21 : decode cX5_rememberedOf 21 = .ok (.getfield 10, 3) := by decide +kernel
theorem dX5_rememberedOf_24 : decode cX5_rememberedOf 24 = .ok (.getfield 79, 3) := by decide +kernel
theorem dX5_rememberedOf_27 : decode cX5_rememberedOf 27 = .ok (.iload_n 1, 1) := by decide +kernel
theorem dX5_rememberedOf_28 : decode cX5_rememberedOf 28 = .ok (.aaload, 1) := by decide +kernel
theorem dX5_rememberedOf_29 : decode cX5_rememberedOf 29 = .ok (.astore_n 3, 1) := by decide +kernel
theorem dX5_rememberedOf_30 : decode cX5_rememberedOf 30 = .ok (.aload_n 3, 1) := by decide +kernel
theorem dX5_rememberedOf_31 : decode cX5_rememberedOf 31 = .ok (.getfield 131, 3) := by decide +kernel
theorem dX5_rememberedOf_34 : decode cX5_rememberedOf 34 = .ok (.ifCond .ne 6, 3) := by decide +kernel
theorem dX5_rememberedOf_37 : decode cX5_rememberedOf 37 = .ok (.ldc 91, 2) := by decide +kernel
theorem dX5_rememberedOf_39 : decode cX5_rememberedOf 39 = .ok (.ireturn, 1) := by decide +kernel
theorem dX5_rememberedOf_40 : decode cX5_rememberedOf 40 = .ok (.iload_n 2, 1) := by decide +kernel
theorem dX5_rememberedOf_41 : decode cX5_rememberedOf 41 = .ok (.tableswitch 94 0 5 #[39, 44, 49, 54, 68, 76], 39) := by decide +kernel
theorem dX5_rememberedOf_80 : decode cX5_rememberedOf 80 = .ok (.aload_n 3, 1) := by decide +kernel
theorem dX5_rememberedOf_81 : decode cX5_rememberedOf 81 = .ok (.getfield 144, 3) := by decide +kernel
theorem dX5_rememberedOf_84 : decode cX5_rememberedOf 84 = .ok (.ireturn, 1) := by decide +kernel
theorem dX5_rememberedOf_85 : decode cX5_rememberedOf 85 = .ok (.aload_n 3, 1) := by decide +kernel
theorem dX5_rememberedOf_86 : decode cX5_rememberedOf 86 = .ok (.getfield 147, 3) := by decide +kernel
theorem dX5_rememberedOf_89 : decode cX5_rememberedOf 89 = .ok (.ireturn, 1) := by decide +kernel
theorem dX5_rememberedOf_90 : decode cX5_rememberedOf 90 = .ok (.aload_n 3, 1) := by decide +kernel
theorem dX5_rememberedOf_91 : decode cX5_rememberedOf 91 = .ok (.getfield 150, 3) := by decide +kernel
theorem dX5_rememberedOf_94 : decode cX5_rememberedOf 94 = .ok (.ireturn, 1) := by decide +kernel
theorem dX5_rememberedOf_95 : decode cX5_rememberedOf 95 = .ok (.aload_n 3, 1) := by decide +kernel
theorem dX5_rememberedOf_96 : decode cX5_rememberedOf 96 = .ok (.getfield 153, 3) := by decide +kernel
theorem dX5_rememberedOf_99 : decode cX5_rememberedOf 99 = .ok (.iconst (-1), 1) := by decide +kernel
theorem dX5_rememberedOf_100 : decode cX5_rememberedOf 100 = .ok (.if_icmp .ne 7, 3) := by decide +kernel
theorem dX5_rememberedOf_103 : decode cX5_rememberedOf 103 = .ok (.iconst 1, 1) := by decide +kernel
theorem dX5_rememberedOf_104 : decode cX5_rememberedOf 104 = .ok (.goto 4, 3) := by decide +kernel
theorem dX5_rememberedOf_107 : decode cX5_rememberedOf 107 = .ok (.iconst 2, 1) := by decide +kernel
theorem dX5_rememberedOf_108 : decode cX5_rememberedOf 108 = .ok (.ireturn, 1) := by decide +kernel
theorem dX5_rememberedOf_109 : decode cX5_rememberedOf 109 = .ok (.aload_n 3, 1) := by decide +kernel
theorem dX5_rememberedOf_110 : decode cX5_rememberedOf 110 = .ok (.getfield 83, 3) := by decide +kernel
theorem dX5_rememberedOf_113 : decode cX5_rememberedOf 113 = .ok (.getfield 95, 3) := by decide +kernel
theorem dX5_rememberedOf_116 : decode cX5_rememberedOf 116 = .ok (.ireturn, 1) := by decide +kernel
theorem dX5_rememberedOf_117 : decode cX5_rememberedOf 117 = .ok (.aload_n 3, 1) := by decide +kernel
theorem dX5_rememberedOf_118 : decode cX5_rememberedOf 118 = .ok (.getfield 153, 3) := by decide +kernel
theorem dX5_rememberedOf_121 : decode cX5_rememberedOf 121 = .ok (.iconst (-1), 1) := by decide +kernel
theorem dX5_rememberedOf_122 : decode cX5_rememberedOf 122 = .ok (.if_icmp .ne 8, 3) := by decide +kernel
theorem dX5_rememberedOf_125 : decode cX5_rememberedOf 125 = .ok (.ldc 91, 2) := by decide +kernel
theorem dX5_rememberedOf_127 : decode cX5_rememberedOf 127 = .ok (.goto 7, 3) := by decide +kernel
theorem dX5_rememberedOf_130 : decode cX5_rememberedOf 130 = .ok (.aload_n 3, 1) := by decide +kernel
theorem dX5_rememberedOf_131 : decode cX5_rememberedOf 131 = .ok (.getfield 153, 3) := by decide +kernel
theorem dX5_rememberedOf_134 : decode cX5_rememberedOf 134 = .ok (.ireturn, 1) := by decide +kernel
theorem dX5_rememberedOf_135 : decode cX5_rememberedOf 135 = .ok (.aload_n 0, 1) := by decide +kernel
theorem dX5_rememberedOf_136 : decode cX5_rememberedOf 136 = .ok (.getfield 10, 3) := by decide +kernel
theorem dX5_rememberedOf_139 : decode cX5_rememberedOf 139 = .ok (.iload_n 1, 1) := by decide +kernel
theorem dX5_rememberedOf_140 : decode cX5_rememberedOf 140 = .ok (.invokevirtual 156, 3) := by decide +kernel
theorem dX5_rememberedOf_143 : decode cX5_rememberedOf 143 = .ok (.ireturn, 1) := by decide +kernel
theorem dX5_which_0 : decode cX5_which 0 = .ok (.iload_n 1, 1) := by decide +kernel
theorem dX5_which_1 : decode cX5_which 1 = .ok (.iconst 0, 1) := by decide +kernel
theorem dX5_which_2 : decode cX5_which 2 = .ok (.iconst 4, 1) := by decide +kernel
theorem dX5_which_3 : decode cX5_which 3 = .ok (.invokestatic 75, 3) := by decide +kernel
theorem dX5_which_6 : decode cX5_which 6 = .ok (.ifCond .ne 6, 3) := by decide +kernel
theorem dX5_which_9 : decode cX5_which 9 = .ok (.ldc 47, 2) := by decide +kernel
theorem dX5_which_11 : decode cX5_which 11 = .ok (.ireturn, 1) := by decide +kernel
theorem dX5_which_12 : decode cX5_which 12 = .ok (.iconst 0, 1) := by decide +kernel
theorem dX5_which_13 : decode cX5_which 13 = .ok (.istore_n 2, 1) := by decide +kernel
theorem dX5_which_14 : decode cX5_which 14 = .ok (.iconst 0, 1) := by decide +kernel
theorem dX5_which_15 : decode cX5_which 15 = .ok (.istore_n 3, 1) := by decide +kernel
theorem dX5_which_16 : decode cX5_which 16 = .ok (.iload_n 3, 1) := by decide +kernel
theorem dX5_which_17 : decode cX5_which 17 = .ok (.bipush 10, 2) := by decide +kernel
theorem dX5_which_19 : decode cX5_which 19 = .ok (.if_icmp .ge 24, 3) := by decide +kernel
theorem dX5_which_22 : decode cX5_which 22 = .ok (.aload_n 0, 1) := by decide +kernel
theorem dX5_which_23 : decode cX5_which 23 = .ok (.iload_n 3, 1) := by decide +kernel
theorem dX5_which_24 : decode cX5_which 24 = .ok (.iload_n 1, 1) := by decide +kernel
theorem dX5_which_25 : decode cX5_which 25 = .ok (.invokevirtual 159, 3) := by decide +kernel
theorem dX5_which_28 : decode cX5_which 28 = .ok (.ifCond .eq 9, 3) := by decide +kernel
theorem dX5_which_31 : decode cX5_which 31 = .ok (.iload_n 2, 1) := by decide +kernel
theorem dX5_which_32 : decode cX5_which 32 = .ok (.iconst 1, 1) := by decide +kernel
theorem dX5_which_33 : decode cX5_which 33 = .ok (.iload_n 3, 1) := by decide +kernel
theorem dX5_which_34 : decode cX5_which 34 = .ok (.ishl, 1) := by decide +kernel
theorem dX5_which_35 : decode cX5_which 35 = .ok (.ior, 1) := by decide +kernel
theorem dX5_which_36 : decode cX5_which 36 = .ok (.istore_n 2, 1) := by decide +kernel
theorem dX5_which_37 : decode cX5_which 37 = .ok (.iinc 3 1, 3) := by decide +kernel
theorem dX5_which_40 : decode cX5_which 40 = .ok (.goto (-24), 3) := by decide +kernel
theorem dX5_which_43 : decode cX5_which 43 = .ok (.iload_n 2, 1) := by decide +kernel
theorem dX5_which_44 : decode cX5_which 44 = .ok (.ireturn, 1) := by decide +kernel
theorem dX5_count_0 : decode cX5_count 0 = .ok (.iload_n 1, 1) := by decide +kernel
theorem dX5_count_1 : decode cX5_count 1 = .ok (.tableswitch 135 0 9 #[55, 63, 71, 79, 87, 95, 103, 111, 119, 127], 55) := by decide +kernel
theorem dX5_count_56 : decode cX5_count 56 = .ok (.aload_n 0, 1) := by decide +kernel
theorem dX5_count_57 : decode cX5_count 57 = .ok (.getfield 10, 3) := by decide +kernel
theorem dX5_count_60 : decode cX5_count 60 = .ok (.getfield 60, 3) := by decide +kernel
theorem dX5_count_63 : decode cX5_count 63 = .ok (.ireturn, 1) := by decide +kernel
theorem dX5_count_64 : decode cX5_count 64 = .ok (.aload_n 0, 1) := by decide +kernel
theorem dX5_count_65 : decode cX5_count 65 = .ok (.getfield 10, 3) := by decide +kernel
theorem dX5_count_68 : decode cX5_count 68 = .ok (.invokevirtual 138, 3) := by decide +kernel
theorem dX5_count_71 : decode cX5_count 71 = .ok (.ireturn, 1) := by decide +kernel
theorem dX5_count_72 : decode cX5_count 72 = .ok (.aload_n 0, 1) := by decide +kernel
theorem dX5_count_73 : decode cX5_count 73 = .ok (.getfield 10, 3) := by decide +kernel
theorem dX5_count_76 : decode cX5_count 76 = .ok (.getfield 122, 3) := by decide +kernel
theorem dX5_count_79 : decode cX5_count 79 = .ok (.ireturn, 1) := by decide +kernel
theorem dX5_count_80 : decode cX5_count 80 = .ok (.aload_n 0, 1) := by decide +kernel
theorem dX5_count_81 : decode cX5_count 81 = .ok (.getfield 10, 3) := by decide +kernel
theorem dX5_count_84 : decode cX5_count 84 = .ok (.getfield 125, 3) := by decide +kernel
theorem dX5_count_87 : decode cX5_count 87 = .ok (.ireturn, 1) := by decide +kernel
theorem dX5_count_88 : decode cX5_count 88 = .ok (.aload_n 0, 1) := by decide +kernel
theorem dX5_count_89 : decode cX5_count 89 = .ok (.getfield 10, 3) := by decide +kernel
theorem dX5_count_92 : decode cX5_count 92 = .ok (.getfield 128, 3) := by decide +kernel
theorem dX5_count_95 : decode cX5_count 95 = .ok (.ireturn, 1) := by decide +kernel
theorem dX5_count_96 : decode cX5_count 96 = .ok (.aload_n 0, 1) := by decide +kernel
theorem dX5_count_97 : decode cX5_count 97 = .ok (.getfield 10, 3) := by decide +kernel
theorem dX5_count_100 : decode cX5_count 100 = .ok (.getfield 165, 3) := by decide +kernel
theorem dX5_count_103 : decode cX5_count 103 = .ok (.ireturn, 1) := by decide +kernel
theorem dX5_count_104 : decode cX5_count 104 = .ok (.aload_n 0, 1) := by decide +kernel
theorem dX5_count_105 : decode cX5_count 105 = .ok (.getfield 10, 3) := by decide +kernel
theorem dX5_count_108 : decode cX5_count 108 = .ok (.getfield 141, 3) := by decide +kernel
theorem dX5_count_111 : decode cX5_count 111 = .ok (.ireturn, 1) := by decide +kernel
theorem dX5_count_112 : decode cX5_count 112 = .ok (.aload_n 0, 1) := by decide +kernel
theorem dX5_count_113 : decode cX5_count 113 = .ok (.getfield 10, 3) := by decide +kernel
theorem dX5_count_116 : decode cX5_count 116 = .ok (.getfield 168, 3) := by decide +kernel
theorem dX5_count_119 : decode cX5_count 119 = .ok (.ireturn, 1) := by decide +kernel
theorem dX5_count_120 : decode cX5_count 120 = .ok (.aload_n 0, 1) := by decide +kernel
theorem dX5_count_121 : decode cX5_count 121 = .ok (.getfield 22, 3) := by decide +kernel
theorem dX5_count_124 : decode cX5_count 124 = .ok (.getfield 171, 3) := by decide +kernel
theorem dX5_count_127 : decode cX5_count 127 = .ok (.ireturn, 1) := by decide +kernel
theorem dX5_count_128 : decode cX5_count 128 = .ok (.aload_n 0, 1) := by decide +kernel
theorem dX5_count_129 : decode cX5_count 129 = .ok (.getfield 29, 3) := by decide +kernel
theorem dX5_count_132 : decode cX5_count 132 = .ok (.getfield 174, 3) := by decide +kernel
theorem dX5_count_135 : decode cX5_count 135 = .ok (.ireturn, 1) := by decide +kernel
theorem dX5_count_136 : decode cX5_count 136 = .ok (.ldc 47, 2) := by decide +kernel
theorem dX5_count_138 : decode cX5_count 138 = .ok (.ireturn, 1) := by decide +kernel
theorem dX5_undo_0 : decode cX5_undo 0 = .ok (.aload_n 0, 1) := by decide +kernel
theorem dX5_undo_1 : decode cX5_undo 1 = .ok (.getfield 22, 3) := by decide +kernel
theorem dX5_undo_4 : decode cX5_undo 4 = .ok (.getfield 171, 3) := by decide +kernel
theorem dX5_undo_7 : decode cX5_undo 7 = .ok (.ifCond .ne 6, 3) := by decide +kernel
theorem dX5_undo_10 : decode cX5_undo 10 = .ok (.ldc 110, 2) := by decide +kernel
theorem dX5_undo_12 : decode cX5_undo 12 = .ok (.ireturn, 1) := by decide +kernel
theorem dX5_undo_13 : decode cX5_undo 13 = .ok (.aload_n 0, 1) := by decide +kernel
theorem dX5_undo_14 : decode cX5_undo 14 = .ok (.getfield 22, 3) := by decide +kernel
theorem dX5_undo_17 : decode cX5_undo 17 = .ok (.aload_n 0, 1) := by decide +kernel
theorem dX5_undo_18 : decode cX5_undo 18 = .ok (.getfield 10, 3) := by decide +kernel
theorem dX5_undo_21 : decode cX5_undo 21 = .ok (.invokevirtual 177, 3) := by decide +kernel
theorem dX5_undo_24 : decode cX5_undo 24 = .ok (.aload_n 0, 1) := by decide +kernel
theorem dX5_undo_25 : decode cX5_undo 25 = .ok (.getfield 22, 3) := by decide +kernel
theorem dX5_undo_28 : decode cX5_undo 28 = .ok (.getfield 171, 3) := by decide +kernel
theorem dX5_undo_31 : decode cX5_undo 31 = .ok (.ireturn, 1) := by decide +kernel
theorem dX5_type_0 : decode cX5_type 0 = .ok (.iload_n 1, 1) := by decide +kernel
theorem dX5_type_1 : decode cX5_type 1 = .ok (.bipush 32, 2) := by decide +kernel
theorem dX5_type_3 : decode cX5_type 3 = .ok (.bipush 126, 2) := by decide +kernel
theorem dX5_type_5 : decode cX5_type 5 = .ok (.invokestatic 75, 3) := by decide +kernel
theorem dX5_type_8 : decode cX5_type 8 = .ok (.ifCond .ne 6, 3) := by decide +kernel
theorem dX5_type_11 : decode cX5_type 11 = .ok (.ldc 47, 2) := by decide +kernel
theorem dX5_type_13 : decode cX5_type 13 = .ok (.ireturn, 1) := by decide +kernel
theorem dX5_type_14 : decode cX5_type 14 = .ok (.aload_n 0, 1) := by decide +kernel
theorem dX5_type_15 : decode cX5_type 15 = .ok (.getfield 29, 3) := by decide +kernel
theorem dX5_type_18 : decode cX5_type 18 = .ok (.getfield 174, 3) := by decide +kernel
theorem dX5_type_21 : decode cX5_type 21 = .ok (.bipush 60, 2) := by decide +kernel
theorem dX5_type_23 : decode cX5_type 23 = .ok (.if_icmp .lt 6, 3) := by decide +kernel
theorem dX5_type_26 : decode cX5_type 26 = .ok (.ldc 180, 2) := by decide +kernel
theorem dX5_type_28 : decode cX5_type 28 = .ok (.ireturn, 1) := by decide +kernel
theorem dX5_type_29 : decode cX5_type 29 = .ok (.aload_n 0, 1) := by decide +kernel
theorem dX5_type_30 : decode cX5_type 30 = .ok (.getfield 29, 3) := by decide +kernel
theorem dX5_type_33 : decode cX5_type 33 = .ok (.iload_n 1, 1) := by decide +kernel
theorem dX5_type_34 : decode cX5_type 34 = .ok (.i2c, 1) := by decide +kernel
theorem dX5_type_35 : decode cX5_type 35 = .ok (.invokevirtual 181, 3) := by decide +kernel
theorem dX5_type_38 : decode cX5_type 38 = .ok (.aload_n 0, 1) := by decide +kernel
theorem dX5_type_39 : decode cX5_type 39 = .ok (.getfield 29, 3) := by decide +kernel
theorem dX5_type_42 : decode cX5_type 42 = .ok (.getfield 174, 3) := by decide +kernel
theorem dX5_type_45 : decode cX5_type 45 = .ok (.ireturn, 1) := by decide +kernel
theorem dX5_clearText_0 : decode cX5_clearText 0 = .ok (.aload_n 0, 1) := by decide +kernel
theorem dX5_clearText_1 : decode cX5_clearText 1 = .ok (.getfield 29, 3) := by decide +kernel
theorem dX5_clearText_4 : decode cX5_clearText 4 = .ok (.getfield 174, 3) := by decide +kernel
theorem dX5_clearText_7 : decode cX5_clearText 7 = .ok (.istore_n 1, 1) := by decide +kernel
theorem dX5_clearText_8 : decode cX5_clearText 8 = .ok (.aload_n 0, 1) := by decide +kernel
theorem dX5_clearText_9 : decode cX5_clearText 9 = .ok (.getfield 29, 3) := by decide +kernel
theorem dX5_clearText_12 : decode cX5_clearText 12 = .ok (.invokevirtual 185, 3) := by decide +kernel
theorem dX5_clearText_15 : decode cX5_clearText 15 = .ok (.iload_n 1, 1) := by decide +kernel
theorem dX5_clearText_16 : decode cX5_clearText 16 = .ok (.ireturn, 1) := by decide +kernel
theorem dX5_fault_0 : decode cX5_fault 0 = .ok (.iload_n 1, 1) := by decide +kernel
theorem dX5_fault_1 : decode cX5_fault 1 = .ok (.iconst 0, 1) := by decide +kernel
theorem dX5_fault_2 : decode cX5_fault 2 = .ok (.iconst 1, 1) := by decide +kernel
theorem dX5_fault_3 : decode cX5_fault 3 = .ok (.invokestatic 75, 3) := by decide +kernel
theorem dX5_fault_6 : decode cX5_fault 6 = .ok (.ifCond .ne 6, 3) := by decide +kernel
theorem dX5_fault_9 : decode cX5_fault 9 = .ok (.ldc 47, 2) := by decide +kernel
theorem dX5_fault_11 : decode cX5_fault 11 = .ok (.ireturn, 1) := by decide +kernel
theorem dX5_fault_12 : decode cX5_fault 12 = .ok (.aload_n 0, 1) := by decide +kernel
theorem dX5_fault_13 : decode cX5_fault 13 = .ok (.getfield 29, 3) := by decide +kernel
theorem dX5_fault_16 : decode cX5_fault 16 = .ok (.invokevirtual 188, 3) := by decide +kernel
theorem dX5_fault_19 : decode cX5_fault 19 = .ok (.istore_n 2, 1) := by decide +kernel
theorem dX5_fault_20 : decode cX5_fault 20 = .ok (.iload_n 2, 1) := by decide +kernel
theorem dX5_fault_21 : decode cX5_fault 21 = .ok (.iconst (-1), 1) := by decide +kernel
theorem dX5_fault_22 : decode cX5_fault 22 = .ok (.if_icmp .ne 6, 3) := by decide +kernel
theorem dX5_fault_25 : decode cX5_fault 25 = .ok (.ldc 91, 2) := by decide +kernel
theorem dX5_fault_27 : decode cX5_fault 27 = .ok (.ireturn, 1) := by decide +kernel
theorem dX5_fault_28 : decode cX5_fault 28 = .ok (.iload_n 1, 1) := by decide +kernel
theorem dX5_fault_29 : decode cX5_fault 29 = .ok (.ifCond .ne 7, 3) := by decide +kernel
theorem dX5_fault_32 : decode cX5_fault 32 = .ok (.iload_n 2, 1) := by decide +kernel
theorem dX5_fault_33 : decode cX5_fault 33 = .ok (.goto 12, 3) := by decide +kernel
theorem dX5_fault_36 : decode cX5_fault 36 = .ok (.aload_n 0, 1) := by decide +kernel
theorem dX5_fault_37 : decode cX5_fault 37 = .ok (.getfield 29, 3) := by decide +kernel
theorem dX5_fault_40 : decode cX5_fault 40 = .ok (.getfield 191, 3) := by decide +kernel
theorem dX5_fault_43 : decode cX5_fault 43 = .ok (.iload_n 2, 1) := by decide +kernel
theorem dX5_fault_44 : decode cX5_fault 44 = .ok (.isub, 1) := by decide +kernel
theorem dX5_fault_45 : decode cX5_fault 45 = .ok (.ireturn, 1) := by decide +kernel
theorem dX5_play_0 : decode cX5_play 0 = .ok (.aload_n 0, 1) := by decide +kernel
theorem dX5_play_1 : decode cX5_play 1 = .ok (.getfield 29, 3) := by decide +kernel
theorem dX5_play_4 : decode cX5_play 4 = .ok (.invokevirtual 188, 3) := by decide +kernel
theorem dX5_play_7 : decode cX5_play 7 = .ok (.iconst (-1), 1) := by decide +kernel
theorem dX5_play_8 : decode cX5_play 8 = .ok (.if_icmp .eq 6, 3) := by decide +kernel
theorem dX5_play_11 : decode cX5_play 11 = .ok (.ldc 110, 2) := by decide +kernel
theorem dX5_play_13 : decode cX5_play 13 = .ok (.ireturn, 1) := by decide +kernel
theorem dX5_play_14 : decode cX5_play 14 = .ok (.aload_n 0, 1) := by decide +kernel
theorem dX5_play_15 : decode cX5_play 15 = .ok (.getfield 22, 3) := by decide +kernel
theorem dX5_play_18 : decode cX5_play 18 = .ok (.aload_n 0, 1) := by decide +kernel
theorem dX5_play_19 : decode cX5_play 19 = .ok (.getfield 10, 3) := by decide +kernel
theorem dX5_play_22 : decode cX5_play 22 = .ok (.invokevirtual 48, 3) := by decide +kernel
theorem dX5_play_25 : decode cX5_play 25 = .ok (.aload_n 0, 1) := by decide +kernel
theorem dX5_play_26 : decode cX5_play 26 = .ok (.getfield 29, 3) := by decide +kernel
theorem dX5_play_29 : decode cX5_play 29 = .ok (.invokevirtual 194, 3) := by decide +kernel
theorem dX5_play_32 : decode cX5_play 32 = .ok (.iconst 0, 1) := by decide +kernel
theorem dX5_play_33 : decode cX5_play 33 = .ok (.istore_n 1, 1) := by decide +kernel
theorem dX5_play_34 : decode cX5_play 34 = .ok (.iload_n 1, 1) := by decide +kernel
theorem dX5_play_35 : decode cX5_play 35 = .ok (.bipush 60, 2) := by decide +kernel
theorem dX5_play_37 : decode cX5_play 37 = .ok (.if_icmp .ge 50, 3) := by decide +kernel
theorem dX5_play_40 : decode cX5_play 40 = .ok (.aload_n 0, 1) := by decide +kernel
theorem dX5_play_41 : decode cX5_play 41 = .ok (.getfield 29, 3) := by decide +kernel
theorem dX5_play_44 : decode cX5_play 44 = .ok (.invokevirtual 197, 3) := by decide +kernel
theorem dX5_play_47 : decode cX5_play 47 = .ok (.ifCond .eq 40, 3) := by decide +kernel
theorem dX5_play_50 : decode cX5_play 50 = .ok (.aload_n 0, 1) := by decide +kernel
theorem dX5_play_51 : decode cX5_play 51 = .ok (.getfield 29, 3) := by decide +kernel
theorem dX5_play_54 : decode cX5_play 54 = .ok (.invokevirtual 201, 3) := by decide +kernel
theorem dX5_play_57 : decode cX5_play 57 = .ok (.ifCond .eq 24, 3) := by decide +kernel
theorem dX5_play_60 : decode cX5_play 60 = .ok (.aload_n 0, 1) := by decide +kernel
theorem dX5_play_61 : decode cX5_play 61 = .ok (.getfield 10, 3) := by decide +kernel
theorem dX5_play_64 : decode cX5_play 64 = .ok (.aload_n 0, 1) := by decide +kernel
theorem dX5_play_65 : decode cX5_play 65 = .ok (.getfield 29, 3) := by decide +kernel
theorem dX5_play_68 : decode cX5_play 68 = .ok (.getfield 204, 3) := by decide +kernel
theorem dX5_play_71 : decode cX5_play 71 = .ok (.aload_n 0, 1) := by decide +kernel
theorem dX5_play_72 : decode cX5_play 72 = .ok (.getfield 29, 3) := by decide +kernel
theorem dX5_play_75 : decode cX5_play 75 = .ok (.getfield 207, 3) := by decide +kernel
theorem dX5_play_78 : decode cX5_play 78 = .ok (.invokevirtual 56, 3) := by decide +kernel
theorem dX5_play_81 : decode cX5_play 81 = .ok (.iinc 1 1, 3) := by decide +kernel
theorem dX5_play_84 : decode cX5_play 84 = .ok (.goto (-50), 3) := by decide +kernel
theorem dX5_play_87 : decode cX5_play 87 = .ok (.aload_n 0, 1) := by decide +kernel
theorem dX5_play_88 : decode cX5_play 88 = .ok (.getfield 10, 3) := by decide +kernel
theorem dX5_play_91 : decode cX5_play 91 = .ok (.getfield 60, 3) := by decide +kernel
theorem dX5_play_94 : decode cX5_play 94 = .ok (.ireturn, 1) := by decide +kernel
theorem dX5_isWithin_0 : decode cX5_isWithin 0 = .ok (.iload_n 0, 1) := by decide +kernel
theorem dX5_isWithin_1 : decode cX5_isWithin 1 = .ok (.iload_n 1, 1) := by decide +kernel
theorem dX5_isWithin_2 : decode cX5_isWithin 2 = .ok (.if_icmp .lt 12, 3) := by decide +kernel
theorem dX5_isWithin_5 : decode cX5_isWithin 5 = .ok (.iload_n 0, 1) := by decide +kernel
theorem dX5_isWithin_6 : decode cX5_isWithin 6 = .ok (.iload_n 2, 1) := by decide +kernel
theorem dX5_isWithin_7 : decode cX5_isWithin 7 = .ok (.if_icmp .gt 7, 3) := by decide +kernel
theorem dX5_isWithin_10 : decode cX5_isWithin 10 = .ok (.iconst 1, 1) := by decide +kernel
theorem dX5_isWithin_11 : decode cX5_isWithin 11 = .ok (.goto 4, 3) := by decide +kernel
theorem dX5_isWithin_14 : decode cX5_isWithin 14 = .ok (.iconst 0, 1) := by decide +kernel
theorem dX5_isWithin_15 : decode cX5_isWithin 15 = .ok (.ireturn, 1) := by decide +kernel
theorem dX5_isCell_0 : decode cX5_isCell 0 = .ok (.iload_n 0, 1) := by decide +kernel
theorem dX5_isCell_1 : decode cX5_isCell 1 = .ok (.iconst 0, 1) := by decide +kernel
theorem dX5_isCell_2 : decode cX5_isCell 2 = .ok (.bipush 9, 2) := by decide +kernel
theorem dX5_isCell_4 : decode cX5_isCell 4 = .ok (.invokestatic 75, 3) := by decide +kernel
theorem dX5_isCell_7 : decode cX5_isCell 7 = .ok (.ireturn, 1) := by decide +kernel
theorem dX5_isValue_0 : decode cX5_isValue 0 = .ok (.iload_n 0, 1) := by decide +kernel
theorem dX5_isValue_1 : decode cX5_isValue 1 = .ok (.ldc 208, 2) := by decide +kernel
theorem dX5_isValue_3 : decode cX5_isValue 3 = .ok (.ldc 209, 2) := by decide +kernel
theorem dX5_isValue_5 : decode cX5_isValue 5 = .ok (.invokestatic 75, 3) := by decide +kernel
theorem dX5_isValue_8 : decode cX5_isValue 8 = .ok (.ireturn, 1) := by decide +kernel
theorem dX5_isKind_0 : decode cX5_isKind 0 = .ok (.iload_n 0, 1) := by decide +kernel
theorem dX5_isKind_1 : decode cX5_isKind 1 = .ok (.iconst 0, 1) := by decide +kernel
theorem dX5_isKind_2 : decode cX5_isKind 2 = .ok (.iconst 4, 1) := by decide +kernel
theorem dX5_isKind_3 : decode cX5_isKind 3 = .ok (.invokestatic 75, 3) := by decide +kernel
theorem dX5_isKind_6 : decode cX5_isKind 6 = .ok (.ireturn, 1) := by decide +kernel
theorem dX5_isThird_0 : decode cX5_isThird 0 = .ok (.iload_n 0, 1) := by decide +kernel
theorem dX5_isThird_1 : decode cX5_isThird 1 = .ok (.iconst 4, 1) := by decide +kernel
theorem dX5_isThird_2 : decode cX5_isThird 2 = .ok (.if_icmp .ne 10, 3) := by decide +kernel
theorem dX5_isThird_5 : decode cX5_isThird 5 = .ok (.iload_n 1, 1) := by decide +kernel
theorem dX5_isThird_6 : decode cX5_isThird 6 = .ok (.invokestatic 40, 3) := by decide +kernel
theorem dX5_isThird_9 : decode cX5_isThird 9 = .ok (.goto 12, 3) := by decide +kernel
theorem dX5_isThird_12 : decode cX5_isThird 12 = .ok (.iload_n 1, 1) := by decide +kernel
theorem dX5_isThird_13 : decode cX5_isThird 13 = .ok (.ifCond .ne 7, 3) := by decide +kernel
theorem dX5_isThird_16 : decode cX5_isThird 16 = .ok (.iconst 1, 1) := by decide +kernel
theorem dX5_isThird_17 : decode cX5_isThird 17 = .ok (.goto 4, 3) := by decide +kernel
theorem dX5_isThird_20 : decode cX5_isThird 20 = .ok (.iconst 0, 1) := by decide +kernel
theorem dX5_isThird_21 : decode cX5_isThird 21 = .ok (.ireturn, 1) := by decide +kernel
theorem dX5_answerAfresh_0 : decode cX5_answerAfresh 0 = .ok (.aload_n 0, 1) := by decide +kernel
theorem dX5_answerAfresh_1 : decode cX5_answerAfresh 1 = .ok (.getfield 16, 3) := by decide +kernel
theorem dX5_answerAfresh_4 : decode cX5_answerAfresh 4 = .ok (.invokevirtual 210, 3) := by decide +kernel
theorem dX5_answerAfresh_7 : decode cX5_answerAfresh 7 = .ok (.aload_n 0, 1) := by decide +kernel
theorem dX5_answerAfresh_8 : decode cX5_answerAfresh 8 = .ok (.getfield 16, 3) := by decide +kernel
theorem dX5_answerAfresh_11 : decode cX5_answerAfresh 11 = .ok (.iload_n 1, 1) := by decide +kernel
theorem dX5_answerAfresh_12 : decode cX5_answerAfresh 12 = .ok (.invokevirtual 107, 3) := by decide +kernel
theorem dX5_answerAfresh_15 : decode cX5_answerAfresh 15 = .ok (.ifCond .ne 6, 3) := by decide +kernel
theorem dX5_answerAfresh_18 : decode cX5_answerAfresh 18 = .ok (.ldc 110, 2) := by decide +kernel
theorem dX5_answerAfresh_20 : decode cX5_answerAfresh 20 = .ok (.ireturn, 1) := by decide +kernel
theorem dX5_answerAfresh_21 : decode cX5_answerAfresh 21 = .ok (.aload_n 0, 1) := by decide +kernel
theorem dX5_answerAfresh_22 : decode cX5_answerAfresh 22 = .ok (.getfield 16, 3) := by decide +kernel
theorem dX5_answerAfresh_25 : decode cX5_answerAfresh 25 = .ok (.getfield 79, 3) := by decide +kernel
theorem dX5_answerAfresh_28 : decode cX5_answerAfresh 28 = .ok (.iload_n 1, 1) := by decide +kernel
theorem dX5_answerAfresh_29 : decode cX5_answerAfresh 29 = .ok (.aaload, 1) := by decide +kernel
theorem dX5_answerAfresh_30 : decode cX5_answerAfresh 30 = .ok (.invokevirtual 111, 3) := by decide +kernel
theorem dX5_answerAfresh_33 : decode cX5_answerAfresh 33 = .ok (.istore_n 2, 1) := by decide +kernel
theorem dX5_answerAfresh_34 : decode cX5_answerAfresh 34 = .ok (.iload_n 2, 1) := by decide +kernel
theorem dX5_answerAfresh_35 : decode cX5_answerAfresh 35 = .ok (.ldc 213, 2) := by decide +kernel
theorem dX5_answerAfresh_37 : decode cX5_answerAfresh 37 = .ok (.if_icmp .ne 8, 3) := by decide +kernel
theorem dX5_answerAfresh_40 : decode cX5_answerAfresh 40 = .ok (.ldc 180, 2) := by decide +kernel
theorem dX5_answerAfresh_42 : decode cX5_answerAfresh 42 = .ok (.goto 4, 3) := by decide +kernel
theorem dX5_answerAfresh_45 : decode cX5_answerAfresh 45 = .ok (.iload_n 2, 1) := by decide +kernel
theorem dX5_answerAfresh_46 : decode cX5_answerAfresh 46 = .ok (.ireturn, 1) := by decide +kernel
theorem dX5_isOneOf_0 : decode cX5_isOneOf 0 = .ok (.aload_n 0, 1) := by decide +kernel
theorem dX5_isOneOf_1 : decode cX5_isOneOf 1 = .ok (.getfield 10, 3) := by decide +kernel
theorem dX5_isOneOf_4 : decode cX5_isOneOf 4 = .ok (.getfield 79, 3) := by decide +kernel
theorem dX5_isOneOf_7 : decode cX5_isOneOf 7 = .ok (.iload_n 1, 1) := by decide +kernel
theorem dX5_isOneOf_8 : decode cX5_isOneOf 8 = .ok (.aaload, 1) := by decide +kernel
theorem dX5_isOneOf_9 : decode cX5_isOneOf 9 = .ok (.astore_n 3, 1) := by decide +kernel
theorem dX5_isOneOf_10 : decode cX5_isOneOf 10 = .ok (.iload_n 2, 1) := by decide +kernel
theorem dX5_isOneOf_11 : decode cX5_isOneOf 11 = .ok (.tableswitch 105 0 3 #[29, 46, 51, 78], 29) := by decide +kernel
theorem dX5_isOneOf_40 : decode cX5_isOneOf 40 = .ok (.aload_n 3, 1) := by decide +kernel
theorem dX5_isOneOf_41 : decode cX5_isOneOf 41 = .ok (.getfield 83, 3) := by decide +kernel
theorem dX5_isOneOf_44 : decode cX5_isOneOf 44 = .ok (.getfield 88, 3) := by decide +kernel
theorem dX5_isOneOf_47 : decode cX5_isOneOf 47 = .ok (.iconst (-1), 1) := by decide +kernel
theorem dX5_isOneOf_48 : decode cX5_isOneOf 48 = .ok (.if_icmp .eq 7, 3) := by decide +kernel
theorem dX5_isOneOf_51 : decode cX5_isOneOf 51 = .ok (.iconst 1, 1) := by decide +kernel
theorem dX5_isOneOf_52 : decode cX5_isOneOf 52 = .ok (.goto 4, 3) := by decide +kernel
theorem dX5_isOneOf_55 : decode cX5_isOneOf 55 = .ok (.iconst 0, 1) := by decide +kernel
theorem dX5_isOneOf_56 : decode cX5_isOneOf 56 = .ok (.ireturn, 1) := by decide +kernel
theorem dX5_isOneOf_57 : decode cX5_isOneOf 57 = .ok (.aload_n 3, 1) := by decide +kernel
theorem dX5_isOneOf_58 : decode cX5_isOneOf 58 = .ok (.getfield 131, 3) := by decide +kernel
theorem dX5_isOneOf_61 : decode cX5_isOneOf 61 = .ok (.ireturn, 1) := by decide +kernel
theorem dX5_isOneOf_62 : decode cX5_isOneOf 62 = .ok (.aload_n 3, 1) := by decide +kernel
theorem dX5_isOneOf_63 : decode cX5_isOneOf 63 = .ok (.getfield 131, 3) := by decide +kernel
theorem dX5_isOneOf_66 : decode cX5_isOneOf 66 = .ok (.ifCond .eq 21, 3) := by decide +kernel
theorem dX5_isOneOf_69 : decode cX5_isOneOf 69 = .ok (.aload_n 3, 1) := by decide +kernel
theorem dX5_isOneOf_70 : decode cX5_isOneOf 70 = .ok (.getfield 150, 3) := by decide +kernel
theorem dX5_isOneOf_73 : decode cX5_isOneOf 73 = .ok (.aload_n 0, 1) := by decide +kernel
theorem dX5_isOneOf_74 : decode cX5_isOneOf 74 = .ok (.getfield 10, 3) := by decide +kernel
theorem dX5_isOneOf_77 : decode cX5_isOneOf 77 = .ok (.getfield 60, 3) := by decide +kernel
theorem dX5_isOneOf_80 : decode cX5_isOneOf 80 = .ok (.if_icmp .ne 7, 3) := by decide +kernel
theorem dX5_isOneOf_83 : decode cX5_isOneOf 83 = .ok (.iconst 1, 1) := by decide +kernel
theorem dX5_isOneOf_84 : decode cX5_isOneOf 84 = .ok (.goto 4, 3) := by decide +kernel
theorem dX5_isOneOf_87 : decode cX5_isOneOf 87 = .ok (.iconst 0, 1) := by decide +kernel
theorem dX5_isOneOf_88 : decode cX5_isOneOf 88 = .ok (.ireturn, 1) := by decide +kernel
theorem dX5_isOneOf_89 : decode cX5_isOneOf 89 = .ok (.aload_n 0, 1) := by decide +kernel
theorem dX5_isOneOf_90 : decode cX5_isOneOf 90 = .ok (.getfield 16, 3) := by decide +kernel
theorem dX5_isOneOf_93 : decode cX5_isOneOf 93 = .ok (.aload_n 0, 1) := by decide +kernel
theorem dX5_isOneOf_94 : decode cX5_isOneOf 94 = .ok (.getfield 10, 3) := by decide +kernel
theorem dX5_isOneOf_97 : decode cX5_isOneOf 97 = .ok (.invokevirtual 104, 3) := by decide +kernel
theorem dX5_isOneOf_100 : decode cX5_isOneOf 100 = .ok (.aload_n 0, 1) := by decide +kernel
theorem dX5_isOneOf_101 : decode cX5_isOneOf 101 = .ok (.iload_n 1, 1) := by decide +kernel
theorem dX5_isOneOf_102 : decode cX5_isOneOf 102 = .ok (.invokevirtual 118, 3) := by decide +kernel
theorem dX5_isOneOf_105 : decode cX5_isOneOf 105 = .ok (.ldc 110, 2) := by decide +kernel
theorem dX5_isOneOf_107 : decode cX5_isOneOf 107 = .ok (.if_icmp .ne 7, 3) := by decide +kernel
theorem dX5_isOneOf_110 : decode cX5_isOneOf 110 = .ok (.iconst 1, 1) := by decide +kernel
theorem dX5_isOneOf_111 : decode cX5_isOneOf 111 = .ok (.goto 4, 3) := by decide +kernel
theorem dX5_isOneOf_114 : decode cX5_isOneOf 114 = .ok (.iconst 0, 1) := by decide +kernel
theorem dX5_isOneOf_115 : decode cX5_isOneOf 115 = .ok (.ireturn, 1) := by decide +kernel
theorem dX5_isOneOf_116 : decode cX5_isOneOf 116 = .ok (.aload_n 0, 1) := by decide +kernel
theorem dX5_isOneOf_117 : decode cX5_isOneOf 117 = .ok (.getfield 16, 3) := by decide +kernel
theorem dX5_isOneOf_120 : decode cX5_isOneOf 120 = .ok (.aload_n 0, 1) := by decide +kernel
theorem dX5_isOneOf_121 : decode cX5_isOneOf 121 = .ok (.getfield 10, 3) := by decide +kernel
theorem dX5_isOneOf_124 : decode cX5_isOneOf 124 = .ok (.invokevirtual 104, 3) := by decide +kernel
theorem dX5_isOneOf_127 : decode cX5_isOneOf 127 = .ok (.aload_n 0, 1) := by decide +kernel
theorem dX5_isOneOf_128 : decode cX5_isOneOf 128 = .ok (.iload_n 1, 1) := by decide +kernel
theorem dX5_isOneOf_129 : decode cX5_isOneOf 129 = .ok (.invokevirtual 118, 3) := by decide +kernel
theorem dX5_isOneOf_132 : decode cX5_isOneOf 132 = .ok (.ldc 180, 2) := by decide +kernel
theorem dX5_isOneOf_134 : decode cX5_isOneOf 134 = .ok (.if_icmp .ne 7, 3) := by decide +kernel
theorem dX5_isOneOf_137 : decode cX5_isOneOf 137 = .ok (.iconst 1, 1) := by decide +kernel
theorem dX5_isOneOf_138 : decode cX5_isOneOf 138 = .ok (.goto 4, 3) := by decide +kernel
theorem dX5_isOneOf_141 : decode cX5_isOneOf 141 = .ok (.iconst 0, 1) := by decide +kernel
theorem dX5_isOneOf_142 : decode cX5_isOneOf 142 = .ok (.ireturn, 1) := by decide +kernel
