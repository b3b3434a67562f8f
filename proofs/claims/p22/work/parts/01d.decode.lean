theorem dX0_init_0 : decode cX0_init 0 = .ok (.aload_n 0, 1) := by decide +kernel
theorem dX0_init_1 : decode cX0_init 1 = .ok (.invokespecial 3, 3) := by decide +kernel
theorem dX0_init_4 : decode cX0_init 4 = .ok (.aload_n 0, 1) := by decide +kernel
theorem dX0_init_5 : decode cX0_init 5 = .ok (.new 9, 3) := by decide +kernel
theorem dX0_init_8 : decode cX0_init 8 = .ok (.dup, 1) := by decide +kernel
theorem dX0_init_9 : decode cX0_init 9 = .ok (.invokespecial 11, 3) := by decide +kernel
theorem dX0_init_12 : decode cX0_init 12 = .ok (.putfield 12, 3) := by decide +kernel
theorem dX0_init_15 : decode cX0_init 15 = .ok (.aload_n 0, 1) := by decide +kernel
theorem dX0_init_16 : decode cX0_init 16 = .ok (.iconst (-1), 1) := by decide +kernel
theorem dX0_init_17 : decode cX0_init 17 = .ok (.putfield 18, 3) := by decide +kernel
theorem dX0_init_20 : decode cX0_init 20 = .ok (.return_, 1) := by decide +kernel
theorem dX0_copy_0 : decode cX0_copy 0 = .ok (.aload_n 0, 1) := by decide +kernel
theorem dX0_copy_1 : decode cX0_copy 1 = .ok (.getfield 12, 3) := by decide +kernel
theorem dX0_copy_4 : decode cX0_copy 4 = .ok (.aload_n 1, 1) := by decide +kernel
theorem dX0_copy_5 : decode cX0_copy 5 = .ok (.getfield 12, 3) := by decide +kernel
theorem dX0_copy_8 : decode cX0_copy 8 = .ok (.invokevirtual 22, 3) := by decide +kernel
theorem dX0_copy_11 : decode cX0_copy 11 = .ok (.aload_n 0, 1) := by decide +kernel
theorem dX0_copy_12 : decode cX0_copy 12 = .ok (.aload_n 1, 1) := by decide +kernel
theorem dX0_copy_13 : decode cX0_copy 13 = .ok (.getfield 26, 3) := by decide +kernel
theorem dX0_copy_16 : decode cX0_copy 16 = .ok (.putfield 26, 3) := by decide +kernel
theorem dX0_copy_19 : decode cX0_copy 19 = .ok (.aload_n 0, 1) := by decide +kernel
theorem dX0_copy_20 : decode cX0_copy 20 = .ok (.aload_n 1, 1) := by decide +kernel
theorem dX0_copy_21 : decode cX0_copy 21 = .ok (.getfield 29, 3) := by decide +kernel
theorem dX0_copy_24 : decode cX0_copy 24 = .ok (.putfield 29, 3) := by decide +kernel
theorem dX0_copy_27 : decode cX0_copy 27 = .ok (.aload_n 0, 1) := by decide +kernel
theorem dX0_copy_28 : decode cX0_copy 28 = .ok (.aload_n 1, 1) := by decide +kernel
theorem dX0_copy_29 : decode cX0_copy 29 = .ok (.getfield 33, 3) := by decide +kernel
theorem dX0_copy_32 : decode cX0_copy 32 = .ok (.putfield 33, 3) := by decide +kernel
theorem dX0_copy_35 : decode cX0_copy 35 = .ok (.aload_n 0, 1) := by decide +kernel
theorem dX0_copy_36 : decode cX0_copy 36 = .ok (.aload_n 1, 1) := by decide +kernel
theorem dX0_copy_37 : decode cX0_copy 37 = .ok (.getfield 36, 3) := by decide +kernel
theorem dX0_copy_40 : decode cX0_copy 40 = .ok (.putfield 36, 3) := by decide +kernel
theorem dX0_copy_43 : decode cX0_copy 43 = .ok (.aload_n 0, 1) := by decide +kernel
theorem dX0_copy_44 : decode cX0_copy 44 = .ok (.aload_n 1, 1) := by decide +kernel
theorem dX0_copy_45 : decode cX0_copy 45 = .ok (.getfield 18, 3) := by decide +kernel
theorem dX0_copy_48 : decode cX0_copy 48 = .ok (.putfield 18, 3) := by decide +kernel
theorem dX0_copy_51 : decode cX0_copy 51 = .ok (.aload_n 0, 1) := by decide +kernel
theorem dX0_copy_52 : decode cX0_copy 52 = .ok (.aload_n 1, 1) := by decide +kernel
theorem dX0_copy_53 : decode cX0_copy 53 = .ok (.getfield 39, 3) := by decide +kernel
theorem dX0_copy_56 : decode cX0_copy 56 = .ok (.putfield 39, 3) := by decide +kernel
theorem dX0_copy_59 : decode cX0_copy 59 = .ok (.aload_n 0, 1) := by decide +kernel
theorem dX0_copy_60 : decode cX0_copy 60 = .ok (.iconst 0, 1) := by decide +kernel
theorem dX0_copy_61 : decode cX0_copy 61 = .ok (.putfield 42, 3) := by decide +kernel
theorem dX0_copy_64 : decode cX0_copy 64 = .ok (.return_, 1) := by decide +kernel
theorem dX0_told_0 : decode cX0_told 0 = .ok (.aload_n 0, 1) := by decide +kernel
theorem dX0_told_1 : decode cX0_told 1 = .ok (.getfield 12, 3) := by decide +kernel
theorem dX0_told_4 : decode cX0_told 4 = .ok (.getfield 45, 3) := by decide +kernel
theorem dX0_told_7 : decode cX0_told 7 = .ok (.iconst (-1), 1) := by decide +kernel
theorem dX0_told_8 : decode cX0_told 8 = .ok (.if_icmp .ne 13, 3) := by decide +kernel
theorem dX0_told_11 : decode cX0_told 11 = .ok (.aload_n 0, 1) := by decide +kernel
theorem dX0_told_12 : decode cX0_told 12 = .ok (.getfield 12, 3) := by decide +kernel
theorem dX0_told_15 : decode cX0_told 15 = .ok (.getfield 48, 3) := by decide +kernel
theorem dX0_told_18 : decode cX0_told 18 = .ok (.goto 7, 3) := by decide +kernel
theorem dX0_told_21 : decode cX0_told 21 = .ok (.aload_n 0, 1) := by decide +kernel
theorem dX0_told_22 : decode cX0_told 22 = .ok (.getfield 33, 3) := by decide +kernel
theorem dX0_told_25 : decode cX0_told 25 = .ok (.ireturn, 1) := by decide +kernel
theorem dX1_init_0 : decode cX1_init 0 = .ok (.aload_n 0, 1) := by decide +kernel
theorem dX1_init_1 : decode cX1_init 1 = .ok (.invokespecial 3, 3) := by decide +kernel
theorem dX1_init_4 : decode cX1_init 4 = .ok (.aload_n 0, 1) := by decide +kernel
theorem dX1_init_5 : decode cX1_init 5 = .ok (.iconst (-1), 1) := by decide +kernel
theorem dX1_init_6 : decode cX1_init 6 = .ok (.putfield 9, 3) := by decide +kernel
theorem dX1_init_9 : decode cX1_init 9 = .ok (.return_, 1) := by decide +kernel
theorem dX1_setValue_0 : decode cX1_setValue 0 = .ok (.aload_n 0, 1) := by decide +kernel
theorem dX1_setValue_1 : decode cX1_setValue 1 = .ok (.iconst (-1), 1) := by decide +kernel
theorem dX1_setValue_2 : decode cX1_setValue 2 = .ok (.putfield 9, 3) := by decide +kernel
theorem dX1_setValue_5 : decode cX1_setValue 5 = .ok (.aload_n 0, 1) := by decide +kernel
theorem dX1_setValue_6 : decode cX1_setValue 6 = .ok (.iload_n 1, 1) := by decide +kernel
theorem dX1_setValue_7 : decode cX1_setValue 7 = .ok (.putfield 15, 3) := by decide +kernel
theorem dX1_setValue_10 : decode cX1_setValue 10 = .ok (.aload_n 0, 1) := by decide +kernel
theorem dX1_setValue_11 : decode cX1_setValue 11 = .ok (.iconst 0, 1) := by decide +kernel
theorem dX1_setValue_12 : decode cX1_setValue 12 = .ok (.putfield 18, 3) := by decide +kernel
theorem dX1_setValue_15 : decode cX1_setValue 15 = .ok (.aload_n 0, 1) := by decide +kernel
theorem dX1_setValue_16 : decode cX1_setValue 16 = .ok (.iconst 0, 1) := by decide +kernel
theorem dX1_setValue_17 : decode cX1_setValue 17 = .ok (.putfield 21, 3) := by decide +kernel
theorem dX1_setValue_20 : decode cX1_setValue 20 = .ok (.aload_n 0, 1) := by decide +kernel
theorem dX1_setValue_21 : decode cX1_setValue 21 = .ok (.iconst 0, 1) := by decide +kernel
theorem dX1_setValue_22 : decode cX1_setValue 22 = .ok (.putfield 24, 3) := by decide +kernel
theorem dX1_setValue_25 : decode cX1_setValue 25 = .ok (.return_, 1) := by decide +kernel
theorem dX1_setFormula_0 : decode cX1_setFormula 0 = .ok (.aload_n 0, 1) := by decide +kernel
theorem dX1_setFormula_1 : decode cX1_setFormula 1 = .ok (.iload_n 1, 1) := by decide +kernel
theorem dX1_setFormula_2 : decode cX1_setFormula 2 = .ok (.putfield 9, 3) := by decide +kernel
theorem dX1_setFormula_5 : decode cX1_setFormula 5 = .ok (.aload_n 0, 1) := by decide +kernel
theorem dX1_setFormula_6 : decode cX1_setFormula 6 = .ok (.iconst 0, 1) := by decide +kernel
theorem dX1_setFormula_7 : decode cX1_setFormula 7 = .ok (.putfield 15, 3) := by decide +kernel
theorem dX1_setFormula_10 : decode cX1_setFormula 10 = .ok (.aload_n 0, 1) := by decide +kernel
theorem dX1_setFormula_11 : decode cX1_setFormula 11 = .ok (.iload_n 2, 1) := by decide +kernel
theorem dX1_setFormula_12 : decode cX1_setFormula 12 = .ok (.putfield 18, 3) := by decide +kernel
theorem dX1_setFormula_15 : decode cX1_setFormula 15 = .ok (.aload_n 0, 1) := by decide +kernel
theorem dX1_setFormula_16 : decode cX1_setFormula 16 = .ok (.iload_n 3, 1) := by decide +kernel
theorem dX1_setFormula_17 : decode cX1_setFormula 17 = .ok (.putfield 21, 3) := by decide +kernel
theorem dX1_setFormula_20 : decode cX1_setFormula 20 = .ok (.aload_n 0, 1) := by decide +kernel
theorem dX1_setFormula_21 : decode cX1_setFormula 21 = .ok (.iload 4, 2) := by decide +kernel
theorem dX1_setFormula_23 : decode cX1_setFormula 23 = .ok (.putfield 24, 3) := by decide +kernel
theorem dX1_setFormula_26 : decode cX1_setFormula 26 = .ok (.return_, 1) := by decide +kernel
theorem dX1_copy_0 : decode cX1_copy 0 = .ok (.aload_n 0, 1) := by decide +kernel
theorem dX1_copy_1 : decode cX1_copy 1 = .ok (.aload_n 1, 1) := by decide +kernel
theorem dX1_copy_2 : decode cX1_copy 2 = .ok (.getfield 9, 3) := by decide +kernel
theorem dX1_copy_5 : decode cX1_copy 5 = .ok (.putfield 9, 3) := by decide +kernel
theorem dX1_copy_8 : decode cX1_copy 8 = .ok (.aload_n 0, 1) := by decide +kernel
theorem dX1_copy_9 : decode cX1_copy 9 = .ok (.aload_n 1, 1) := by decide +kernel
theorem dX1_copy_10 : decode cX1_copy 10 = .ok (.getfield 15, 3) := by decide +kernel
theorem dX1_copy_13 : decode cX1_copy 13 = .ok (.putfield 15, 3) := by decide +kernel
theorem dX1_copy_16 : decode cX1_copy 16 = .ok (.aload_n 0, 1) := by decide +kernel
theorem dX1_copy_17 : decode cX1_copy 17 = .ok (.aload_n 1, 1) := by decide +kernel
theorem dX1_copy_18 : decode cX1_copy 18 = .ok (.getfield 18, 3) := by decide +kernel
theorem dX1_copy_21 : decode cX1_copy 21 = .ok (.putfield 18, 3) := by decide +kernel
theorem dX1_copy_24 : decode cX1_copy 24 = .ok (.aload_n 0, 1) := by decide +kernel
theorem dX1_copy_25 : decode cX1_copy 25 = .ok (.aload_n 1, 1) := by decide +kernel
theorem dX1_copy_26 : decode cX1_copy 26 = .ok (.getfield 21, 3) := by decide +kernel
theorem dX1_copy_29 : decode cX1_copy 29 = .ok (.putfield 21, 3) := by decide +kernel
theorem dX1_copy_32 : decode cX1_copy 32 = .ok (.aload_n 0, 1) := by decide +kernel
theorem dX1_copy_33 : decode cX1_copy 33 = .ok (.aload_n 1, 1) := by decide +kernel
theorem dX1_copy_34 : decode cX1_copy 34 = .ok (.getfield 24, 3) := by decide +kernel
theorem dX1_copy_37 : decode cX1_copy 37 = .ok (.putfield 24, 3) := by decide +kernel
theorem dX1_copy_40 : decode cX1_copy 40 = .ok (.return_, 1) := by decide +kernel
theorem dX1_isLike_0 : decode cX1_isLike 0 = .ok (.aload_n 0, 1) := by decide +kernel
theorem dX1_isLike_1 : decode cX1_isLike 1 = .ok (.getfield 9, 3) := by decide +kernel
theorem dX1_isLike_4 : decode cX1_isLike 4 = .ok (.aload_n 1, 1) := by decide +kernel
theorem dX1_isLike_5 : decode cX1_isLike 5 = .ok (.getfield 9, 3) := by decide +kernel
theorem dX1_isLike_8 : decode cX1_isLike 8 = .ok (.if_icmp .ne 51, 3) := by decide +kernel
theorem dX1_isLike_11 : decode cX1_isLike 11 = .ok (.aload_n 0, 1) := by decide +kernel
theorem dX1_isLike_12 : decode cX1_isLike 12 = .ok (.getfield 15, 3) := by decide +kernel
theorem dX1_isLike_15 : decode cX1_isLike 15 = .ok (.aload_n 1, 1) := by decide +kernel
theorem dX1_isLike_16 : decode cX1_isLike 16 = .ok (.getfield 15, 3) := by decide +kernel
theorem dX1_isLike_19 : decode cX1_isLike 19 = .ok (.if_icmp .ne 40, 3) := by decide +kernel
theorem dX1_isLike_22 : decode cX1_isLike 22 = .ok (.aload_n 0, 1) := by decide +kernel
theorem dX1_isLike_23 : decode cX1_isLike 23 = .ok (.getfield 18, 3) := by decide +kernel
theorem dX1_isLike_26 : decode cX1_isLike 26 = .ok (.aload_n 1, 1) := by decide +kernel
theorem dX1_isLike_27 : decode cX1_isLike 27 = .ok (.getfield 18, 3) := by decide +kernel
theorem dX1_isLike_30 : decode cX1_isLike 30 = .ok (.if_icmp .ne 29, 3) := by decide +kernel
theorem dX1_isLike_33 : decode cX1_isLike 33 = .ok (.aload_n 0, 1) := by decide +kernel
theorem dX1_isLike_34 : decode cX1_isLike 34 = .ok (.getfield 21, 3) := by decide +kernel
theorem dX1_isLike_37 : decode cX1_isLike 37 = .ok (.aload_n 1, 1) := by decide +kernel
theorem dX1_isLike_38 : decode cX1_isLike 38 = .ok (.getfield 21, 3) := by decide +kernel
theorem dX1_isLike_41 : decode cX1_isLike 41 = .ok (.if_icmp .ne 18, 3) := by decide +kernel
theorem dX1_isLike_44 : decode cX1_isLike 44 = .ok (.aload_n 0, 1) := by decide +kernel
theorem dX1_isLike_45 : decode cX1_isLike 45 = .ok (.getfield 24, 3) := by decide +kernel
theorem dX1_isLike_48 : decode cX1_isLike 48 = .ok (.aload_n 1, 1) := by decide +kernel
theorem dX1_isLike_49 : decode cX1_isLike 49 = .ok (.getfield 24, 3) := by decide +kernel
theorem dX1_isLike_52 : decode cX1_isLike 52 = .ok (.if_icmp .ne 7, 3) := by decide +kernel
theorem dX1_isLike_55 : decode cX1_isLike 55 = .ok (.iconst 1, 1) := by decide +kernel
theorem dX1_isLike_56 : decode cX1_isLike 56 = .ok (.goto 4, 3) := by decide +kernel
theorem dX1_isLike_59 : decode cX1_isLike 59 = .ok (.iconst 0, 1) := by decide +kernel
theorem dX1_isLike_60 : decode cX1_isLike 60 = .ok (.ireturn, 1) := by decide +kernel
theorem dX1_secondFor_0 : decode cX1_secondFor 0 = .ok (.aload_n 0, 1) := by decide +kernel
theorem dX1_secondFor_1 : decode cX1_secondFor 1 = .ok (.getfield 9, 3) := by decide +kernel
theorem dX1_secondFor_4 : decode cX1_secondFor 4 = .ok (.iconst 4, 1) := by decide +kernel
theorem dX1_secondFor_5 : decode cX1_secondFor 5 = .ok (.if_icmp .eq 8, 3) := by decide +kernel
theorem dX1_secondFor_8 : decode cX1_secondFor 8 = .ok (.aload_n 0, 1) := by decide +kernel
theorem dX1_secondFor_9 : decode cX1_secondFor 9 = .ok (.getfield 21, 3) := by decide +kernel
theorem dX1_secondFor_12 : decode cX1_secondFor 12 = .ok (.ireturn, 1) := by decide +kernel
theorem dX1_secondFor_13 : decode cX1_secondFor 13 = .ok (.iload_n 1, 1) := by decide +kernel
theorem dX1_secondFor_14 : decode cX1_secondFor 14 = .ok (.ldc 27, 2) := by decide +kernel
theorem dX1_secondFor_16 : decode cX1_secondFor 16 = .ok (.if_icmp .ne 5, 3) := by decide +kernel
theorem dX1_secondFor_19 : decode cX1_secondFor 19 = .ok (.iconst (-1), 1) := by decide +kernel
theorem dX1_secondFor_20 : decode cX1_secondFor 20 = .ok (.ireturn, 1) := by decide +kernel
theorem dX1_secondFor_21 : decode cX1_secondFor 21 = .ok (.iload_n 1, 1) := by decide +kernel
theorem dX1_secondFor_22 : decode cX1_secondFor 22 = .ok (.ifCond .le 10, 3) := by decide +kernel
theorem dX1_secondFor_25 : decode cX1_secondFor 25 = .ok (.aload_n 0, 1) := by decide +kernel
theorem dX1_secondFor_26 : decode cX1_secondFor 26 = .ok (.getfield 21, 3) := by decide +kernel
theorem dX1_secondFor_29 : decode cX1_secondFor 29 = .ok (.goto 7, 3) := by decide +kernel
theorem dX1_secondFor_32 : decode cX1_secondFor 32 = .ok (.aload_n 0, 1) := by decide +kernel
theorem dX1_secondFor_33 : decode cX1_secondFor 33 = .ok (.getfield 24, 3) := by decide +kernel
theorem dX1_secondFor_36 : decode cX1_secondFor 36 = .ok (.ireturn, 1) := by decide +kernel
theorem dX1_give_0 : decode cX1_give 0 = .ok (.iload_n 1, 1) := by decide +kernel
theorem dX1_give_1 : decode cX1_give 1 = .ok (.ldc 27, 2) := by decide +kernel
theorem dX1_give_3 : decode cX1_give 3 = .ok (.if_icmp .eq 9, 3) := by decide +kernel
theorem dX1_give_6 : decode cX1_give 6 = .ok (.iload_n 2, 1) := by decide +kernel
theorem dX1_give_7 : decode cX1_give 7 = .ok (.ldc 27, 2) := by decide +kernel
theorem dX1_give_9 : decode cX1_give 9 = .ok (.if_icmp .ne 6, 3) := by decide +kernel
theorem dX1_give_12 : decode cX1_give 12 = .ok (.ldc 27, 2) := by decide +kernel
theorem dX1_give_14 : decode cX1_give 14 = .ok (.ireturn, 1) := by decide +kernel
theorem dX1_give_15 : decode cX1_give 15 = .ok (.iload_n 2, 1) := by decide +kernel
theorem dX1_give_16 : decode cX1_give 16 = .ok (.i2l, 1) := by decide +kernel
theorem dX1_give_17 : decode cX1_give 17 = .ok (.lstore_n 3, 1) := by decide +kernel
theorem dX1_give_18 : decode cX1_give 18 = .ok (.aload_n 0, 1) := by decide +kernel
theorem dX1_give_19 : decode cX1_give 19 = .ok (.getfield 9, 3) := by decide +kernel
theorem dX1_give_22 : decode cX1_give 22 = .ok (.tableswitch 67 0 3 #[30, 39, 48, 57], 30) := by decide +kernel
theorem dX1_give_52 : decode cX1_give 52 = .ok (.iload_n 1, 1) := by decide +kernel
theorem dX1_give_53 : decode cX1_give 53 = .ok (.i2l, 1) := by decide +kernel
theorem dX1_give_54 : decode cX1_give 54 = .ok (.iload_n 2, 1) := by decide +kernel
theorem dX1_give_55 : decode cX1_give 55 = .ok (.i2l, 1) := by decide +kernel
theorem dX1_give_56 : decode cX1_give 56 = .ok (.ladd, 1) := by decide +kernel
theorem dX1_give_57 : decode cX1_give 57 = .ok (.lstore_n 3, 1) := by decide +kernel
theorem dX1_give_58 : decode cX1_give 58 = .ok (.goto 31, 3) := by decide +kernel
theorem dX1_give_61 : decode cX1_give 61 = .ok (.iload_n 1, 1) := by decide +kernel
theorem dX1_give_62 : decode cX1_give 62 = .ok (.i2l, 1) := by decide +kernel
theorem dX1_give_63 : decode cX1_give 63 = .ok (.iload_n 2, 1) := by decide +kernel
theorem dX1_give_64 : decode cX1_give 64 = .ok (.i2l, 1) := by decide +kernel
theorem dX1_give_65 : decode cX1_give 65 = .ok (.lsub, 1) := by decide +kernel
theorem dX1_give_66 : decode cX1_give 66 = .ok (.lstore_n 3, 1) := by decide +kernel
theorem dX1_give_67 : decode cX1_give 67 = .ok (.goto 22, 3) := by decide +kernel
theorem dX1_give_70 : decode cX1_give 70 = .ok (.iload_n 1, 1) := by decide +kernel
theorem dX1_give_71 : decode cX1_give 71 = .ok (.i2l, 1) := by decide +kernel
theorem dX1_give_72 : decode cX1_give 72 = .ok (.iload_n 2, 1) := by decide +kernel
theorem dX1_give_73 : decode cX1_give 73 = .ok (.i2l, 1) := by decide +kernel
theorem dX1_give_74 : decode cX1_give 74 = .ok (.lmul, 1) := by decide +kernel
theorem dX1_give_75 : decode cX1_give 75 = .ok (.lstore_n 3, 1) := by decide +kernel
theorem dX1_give_76 : decode cX1_give 76 = .ok (.goto 13, 3) := by decide +kernel
theorem dX1_give_79 : decode cX1_give 79 = .ok (.iload_n 1, 1) := by decide +kernel
theorem dX1_give_80 : decode cX1_give 80 = .ok (.iload_n 2, 1) := by decide +kernel
theorem dX1_give_81 : decode cX1_give 81 = .ok (.invokestatic 28, 3) := by decide +kernel
theorem dX1_give_84 : decode cX1_give 84 = .ok (.i2l, 1) := by decide +kernel
theorem dX1_give_85 : decode cX1_give 85 = .ok (.lstore_n 3, 1) := by decide +kernel
theorem dX1_give_86 : decode cX1_give 86 = .ok (.goto 3, 3) := by decide +kernel
theorem dX1_give_89 : decode cX1_give 89 = .ok (.lload_n 3, 1) := by decide +kernel
theorem dX1_give_90 : decode cX1_give 90 = .ok (.ldc2_w 34, 3) := by decide +kernel
theorem dX1_give_93 : decode cX1_give 93 = .ok (.lcmp, 1) := by decide +kernel
theorem dX1_give_94 : decode cX1_give 94 = .ok (.ifCond .lt 11, 3) := by decide +kernel
theorem dX1_give_97 : decode cX1_give 97 = .ok (.lload_n 3, 1) := by decide +kernel
theorem dX1_give_98 : decode cX1_give 98 = .ok (.ldc2_w 36, 3) := by decide +kernel
theorem dX1_give_101 : decode cX1_give 101 = .ok (.lcmp, 1) := by decide +kernel
theorem dX1_give_102 : decode cX1_give 102 = .ok (.ifCond .le 8, 3) := by decide +kernel
theorem dX1_give_105 : decode cX1_give 105 = .ok (.ldc 27, 2) := by decide +kernel
theorem dX1_give_107 : decode cX1_give 107 = .ok (.goto 5, 3) := by decide +kernel
theorem dX1_give_110 : decode cX1_give 110 = .ok (.lload_n 3, 1) := by decide +kernel
theorem dX1_give_111 : decode cX1_give 111 = .ok (.l2i, 1) := by decide +kernel
theorem dX1_give_112 : decode cX1_give 112 = .ok (.ireturn, 1) := by decide +kernel
theorem dX2_init_0 : decode cX2_init 0 = .ok (.aload_n 0, 1) := by decide +kernel
theorem dX2_init_1 : decode cX2_init 1 = .ok (.invokespecial 3, 3) := by decide +kernel
theorem dX2_init_4 : decode cX2_init 4 = .ok (.aload_n 0, 1) := by decide +kernel
theorem dX2_init_5 : decode cX2_init 5 = .ok (.iconst 4, 1) := by decide +kernel
theorem dX2_init_6 : decode cX2_init 6 = .ok (.anewarray 9, 3) := by decide +kernel
theorem dX2_init_9 : decode cX2_init 9 = .ok (.putfield 11, 3) := by decide +kernel
theorem dX2_init_12 : decode cX2_init 12 = .ok (.iconst 0, 1) := by decide +kernel
theorem dX2_init_13 : decode cX2_init 13 = .ok (.istore_n 1, 1) := by decide +kernel
theorem dX2_init_14 : decode cX2_init 14 = .ok (.iload_n 1, 1) := by decide +kernel
theorem dX2_init_15 : decode cX2_init 15 = .ok (.iconst 4, 1) := by decide +kernel
theorem dX2_init_16 : decode cX2_init 16 = .ok (.if_icmp .ge 22, 3) := by decide +kernel
theorem dX2_init_19 : decode cX2_init 19 = .ok (.aload_n 0, 1) := by decide +kernel
theorem dX2_init_20 : decode cX2_init 20 = .ok (.getfield 11, 3) := by decide +kernel
theorem dX2_init_23 : decode cX2_init 23 = .ok (.iload_n 1, 1) := by decide +kernel
theorem dX2_init_24 : decode cX2_init 24 = .ok (.new 9, 3) := by decide +kernel
theorem dX2_init_27 : decode cX2_init 27 = .ok (.dup, 1) := by decide +kernel
theorem dX2_init_28 : decode cX2_init 28 = .ok (.invokespecial 17, 3) := by decide +kernel
theorem dX2_init_31 : decode cX2_init 31 = .ok (.aastore, 1) := by decide +kernel
theorem dX2_init_32 : decode cX2_init 32 = .ok (.iinc 1 1, 3) := by decide +kernel
theorem dX2_init_35 : decode cX2_init 35 = .ok (.goto (-21), 3) := by decide +kernel
theorem dX2_init_38 : decode cX2_init 38 = .ok (.return_, 1) := by decide +kernel
theorem dX2_record_0 : decode cX2_record 0 = .ok (.aload_n 0, 1) := by decide +kernel
theorem dX2_record_1 : decode cX2_record 1 = .ok (.getfield 18, 3) := by decide +kernel
theorem dX2_record_4 : decode cX2_record 4 = .ok (.iconst 4, 1) := by decide +kernel
theorem dX2_record_5 : decode cX2_record 5 = .ok (.if_icmp .lt 7, 3) := by decide +kernel
theorem dX2_record_8 : decode cX2_record 8 = .ok (.aload_n 0, 1) := by decide +kernel
theorem dX2_record_9 : decode cX2_record 9 = .ok (.invokevirtual 22, 3) := by decide +kernel
theorem dX2_record_12 : decode cX2_record 12 = .ok (.aload_n 0, 1) := by decide +kernel
theorem dX2_record_13 : decode cX2_record 13 = .ok (.getfield 11, 3) := by decide +kernel
theorem dX2_record_16 : decode cX2_record 16 = .ok (.aload_n 0, 1) := by decide +kernel
theorem dX2_record_17 : decode cX2_record 17 = .ok (.getfield 18, 3) := by decide +kernel
theorem dX2_record_20 : decode cX2_record 20 = .ok (.aaload, 1) := by decide +kernel
theorem dX2_record_21 : decode cX2_record 21 = .ok (.aload_n 1, 1) := by decide +kernel
theorem dX2_record_22 : decode cX2_record 22 = .ok (.invokevirtual 25, 3) := by decide +kernel
theorem dX2_record_25 : decode cX2_record 25 = .ok (.aload_n 0, 1) := by decide +kernel
theorem dX2_record_26 : decode cX2_record 26 = .ok (.dup, 1) := by decide +kernel
theorem dX2_record_27 : decode cX2_record 27 = .ok (.getfield 18, 3) := by decide +kernel
theorem dX2_record_30 : decode cX2_record 30 = .ok (.iconst 1, 1) := by decide +kernel
theorem dX2_record_31 : decode cX2_record 31 = .ok (.iadd, 1) := by decide +kernel
theorem dX2_record_32 : decode cX2_record 32 = .ok (.putfield 18, 3) := by decide +kernel
theorem dX2_record_35 : decode cX2_record 35 = .ok (.return_, 1) := by decide +kernel
theorem dX2_dropOldest_0 : decode cX2_dropOldest 0 = .ok (.aload_n 0, 1) := by decide +kernel
theorem dX2_dropOldest_1 : decode cX2_dropOldest 1 = .ok (.getfield 11, 3) := by decide +kernel
theorem dX2_dropOldest_4 : decode cX2_dropOldest 4 = .ok (.iconst 0, 1) := by decide +kernel
theorem dX2_dropOldest_5 : decode cX2_dropOldest 5 = .ok (.aaload, 1) := by decide +kernel
theorem dX2_dropOldest_6 : decode cX2_dropOldest 6 = .ok (.astore_n 1, 1) := by decide +kernel
theorem dX2_dropOldest_7 : decode cX2_dropOldest 7 = .ok (.iconst 1, 1) := by decide +kernel
theorem dX2_dropOldest_8 : decode cX2_dropOldest 8 = .ok (.istore_n 2, 1) := by decide +kernel
theorem dX2_dropOldest_9 : decode cX2_dropOldest 9 = .ok (.iload_n 2, 1) := by decide +kernel
theorem dX2_dropOldest_10 : decode cX2_dropOldest 10 = .ok (.iconst 4, 1) := by decide +kernel
theorem dX2_dropOldest_11 : decode cX2_dropOldest 11 = .ok (.if_icmp .ge 23, 3) := by decide +kernel
theorem dX2_dropOldest_14 : decode cX2_dropOldest 14 = .ok (.aload_n 0, 1) := by decide +kernel
theorem dX2_dropOldest_15 : decode cX2_dropOldest 15 = .ok (.getfield 11, 3) := by decide +kernel
theorem dX2_dropOldest_18 : decode cX2_dropOldest 18 = .ok (.iload_n 2, 1) := by decide +kernel
theorem dX2_dropOldest_19 : decode cX2_dropOldest 19 = .ok (.iconst 1, 1) := by decide +kernel
theorem dX2_dropOldest_20 : decode cX2_dropOldest 20 = .ok (.isub, 1) := by decide +kernel
theorem dX2_dropOldest_21 : decode cX2_dropOldest 21 = .ok (.aload_n 0, 1) := by decide +kernel
theorem dX2_dropOldest_22 : decode cX2_dropOldest 22 = .ok (.getfield 11, 3) := by decide +kernel
theorem dX2_dropOldest_25 : decode cX2_dropOldest 25 = .ok (.iload_n 2, 1) := by decide +kernel
theorem dX2_dropOldest_26 : decode cX2_dropOldest 26 = .ok (.aaload, 1) := by decide +kernel
theorem dX2_dropOldest_27 : decode cX2_dropOldest 27 = .ok (.aastore, 1) := by decide +kernel
theorem dX2_dropOldest_28 : decode cX2_dropOldest 28 = .ok (.iinc 2 1, 3) := by decide +kernel
theorem dX2_dropOldest_31 : decode cX2_dropOldest 31 = .ok (.goto (-22), 3) := by decide +kernel
theorem dX2_dropOldest_34 : decode cX2_dropOldest 34 = .ok (.aload_n 0, 1) := by decide +kernel
theorem dX2_dropOldest_35 : decode cX2_dropOldest 35 = .ok (.getfield 11, 3) := by decide +kernel
theorem dX2_dropOldest_38 : decode cX2_dropOldest 38 = .ok (.iconst 3, 1) := by decide +kernel
theorem dX2_dropOldest_39 : decode cX2_dropOldest 39 = .ok (.aload_n 1, 1) := by decide +kernel
theorem dX2_dropOldest_40 : decode cX2_dropOldest 40 = .ok (.aastore, 1) := by decide +kernel
theorem dX2_dropOldest_41 : decode cX2_dropOldest 41 = .ok (.aload_n 0, 1) := by decide +kernel
theorem dX2_dropOldest_42 : decode cX2_dropOldest 42 = .ok (.iconst 3, 1) := by decide +kernel
theorem dX2_dropOldest_43 : decode cX2_dropOldest 43 = .ok (.putfield 18, 3) := by decide +kernel
theorem dX2_dropOldest_46 : decode cX2_dropOldest 46 = .ok (.return_, 1) := by decide +kernel
theorem dX2_restoreLatestTo_0 : decode cX2_restoreLatestTo 0 = .ok (.aload_n 0, 1) := by decide +kernel
theorem dX2_restoreLatestTo_1 : decode cX2_restoreLatestTo 1 = .ok (.getfield 18, 3) := by decide +kernel
theorem dX2_restoreLatestTo_4 : decode cX2_restoreLatestTo 4 = .ok (.ifCond .le 26, 3) := by decide +kernel
theorem dX2_restoreLatestTo_7 : decode cX2_restoreLatestTo 7 = .ok (.aload_n 0, 1) := by decide +kernel
theorem dX2_restoreLatestTo_8 : decode cX2_restoreLatestTo 8 = .ok (.dup, 1) := by decide +kernel
theorem dX2_restoreLatestTo_9 : decode cX2_restoreLatestTo 9 = .ok (.getfield 18, 3) := by decide +kernel
theorem dX2_restoreLatestTo_12 : decode cX2_restoreLatestTo 12 = .ok (.iconst 1, 1) := by decide +kernel
theorem dX2_restoreLatestTo_13 : decode cX2_restoreLatestTo 13 = .ok (.isub, 1) := by decide +kernel
theorem dX2_restoreLatestTo_14 : decode cX2_restoreLatestTo 14 = .ok (.putfield 18, 3) := by decide +kernel
theorem dX2_restoreLatestTo_17 : decode cX2_restoreLatestTo 17 = .ok (.aload_n 1, 1) := by decide +kernel
theorem dX2_restoreLatestTo_18 : decode cX2_restoreLatestTo 18 = .ok (.aload_n 0, 1) := by decide +kernel
theorem dX2_restoreLatestTo_19 : decode cX2_restoreLatestTo 19 = .ok (.getfield 11, 3) := by decide +kernel
theorem dX2_restoreLatestTo_22 : decode cX2_restoreLatestTo 22 = .ok (.aload_n 0, 1) := by decide +kernel
theorem dX2_restoreLatestTo_23 : decode cX2_restoreLatestTo 23 = .ok (.getfield 18, 3) := by decide +kernel
theorem dX2_restoreLatestTo_26 : decode cX2_restoreLatestTo 26 = .ok (.aaload, 1) := by decide +kernel
theorem dX2_restoreLatestTo_27 : decode cX2_restoreLatestTo 27 = .ok (.invokevirtual 25, 3) := by decide +kernel
theorem dX2_restoreLatestTo_30 : decode cX2_restoreLatestTo 30 = .ok (.return_, 1) := by decide +kernel
theorem dX3_init_0 : decode cX3_init 0 = .ok (.aload_n 0, 1) := by decide +kernel
theorem dX3_init_1 : decode cX3_init 1 = .ok (.invokespecial 3, 3) := by decide +kernel
theorem dX3_init_4 : decode cX3_init 4 = .ok (.aload_n 0, 1) := by decide +kernel
theorem dX3_init_5 : decode cX3_init 5 = .ok (.bipush 10, 2) := by decide +kernel
theorem dX3_init_7 : decode cX3_init 7 = .ok (.anewarray 9, 3) := by decide +kernel
theorem dX3_init_10 : decode cX3_init 10 = .ok (.putfield 11, 3) := by decide +kernel
theorem dX3_init_13 : decode cX3_init 13 = .ok (.aload_n 0, 1) := by decide +kernel
theorem dX3_init_14 : decode cX3_init 14 = .ok (.bipush 10, 2) := by decide +kernel
theorem dX3_init_16 : decode cX3_init 16 = .ok (.putfield 17, 3) := by decide +kernel
theorem dX3_init_19 : decode cX3_init 19 = .ok (.iconst 0, 1) := by decide +kernel
theorem dX3_init_20 : decode cX3_init 20 = .ok (.istore_n 1, 1) := by decide +kernel
theorem dX3_init_21 : decode cX3_init 21 = .ok (.iload_n 1, 1) := by decide +kernel
theorem dX3_init_22 : decode cX3_init 22 = .ok (.bipush 10, 2) := by decide +kernel
theorem dX3_init_24 : decode cX3_init 24 = .ok (.if_icmp .ge 22, 3) := by decide +kernel
theorem dX3_init_27 : decode cX3_init 27 = .ok (.aload_n 0, 1) := by decide +kernel
theorem dX3_init_28 : decode cX3_init 28 = .ok (.getfield 11, 3) := by decide +kernel
theorem dX3_init_31 : decode cX3_init 31 = .ok (.iload_n 1, 1) := by decide +kernel
theorem dX3_init_32 : decode cX3_init 32 = .ok (.new 9, 3) := by decide +kernel
theorem dX3_init_35 : decode cX3_init 35 = .ok (.dup, 1) := by decide +kernel
theorem dX3_init_36 : decode cX3_init 36 = .ok (.invokespecial 21, 3) := by decide +kernel
theorem dX3_init_39 : decode cX3_init 39 = .ok (.aastore, 1) := by decide +kernel
theorem dX3_init_40 : decode cX3_init 40 = .ok (.iinc 1 1, 3) := by decide +kernel
theorem dX3_init_43 : decode cX3_init 43 = .ok (.goto (-22), 3) := by decide +kernel
theorem dX3_init_46 : decode cX3_init 46 = .ok (.return_, 1) := by decide +kernel
theorem dX3_copy_0 : decode cX3_copy 0 = .ok (.iconst 0, 1) := by decide +kernel
theorem dX3_copy_1 : decode cX3_copy 1 = .ok (.istore_n 2, 1) := by decide +kernel
theorem dX3_copy_2 : decode cX3_copy 2 = .ok (.iload_n 2, 1) := by decide +kernel
theorem dX3_copy_3 : decode cX3_copy 3 = .ok (.bipush 10, 2) := by decide +kernel
theorem dX3_copy_5 : decode cX3_copy 5 = .ok (.if_icmp .ge 24, 3) := by decide +kernel
theorem dX3_copy_8 : decode cX3_copy 8 = .ok (.aload_n 0, 1) := by decide +kernel
theorem dX3_copy_9 : decode cX3_copy 9 = .ok (.getfield 11, 3) := by decide +kernel
theorem dX3_copy_12 : decode cX3_copy 12 = .ok (.iload_n 2, 1) := by decide +kernel
theorem dX3_copy_13 : decode cX3_copy 13 = .ok (.aaload, 1) := by decide +kernel
theorem dX3_copy_14 : decode cX3_copy 14 = .ok (.aload_n 1, 1) := by decide +kernel
theorem dX3_copy_15 : decode cX3_copy 15 = .ok (.getfield 11, 3) := by decide +kernel
theorem dX3_copy_18 : decode cX3_copy 18 = .ok (.iload_n 2, 1) := by decide +kernel
theorem dX3_copy_19 : decode cX3_copy 19 = .ok (.aaload, 1) := by decide +kernel
theorem dX3_copy_20 : decode cX3_copy 20 = .ok (.invokevirtual 22, 3) := by decide +kernel
theorem dX3_copy_23 : decode cX3_copy 23 = .ok (.iinc 2 1, 3) := by decide +kernel
theorem dX3_copy_26 : decode cX3_copy 26 = .ok (.goto (-24), 3) := by decide +kernel
theorem dX3_copy_29 : decode cX3_copy 29 = .ok (.aload_n 0, 1) := by decide +kernel
theorem dX3_copy_30 : decode cX3_copy 30 = .ok (.aload_n 1, 1) := by decide +kernel
theorem dX3_copy_31 : decode cX3_copy 31 = .ok (.getfield 26, 3) := by decide +kernel
theorem dX3_copy_34 : decode cX3_copy 34 = .ok (.putfield 26, 3) := by decide +kernel
theorem dX3_copy_37 : decode cX3_copy 37 = .ok (.aload_n 0, 1) := by decide +kernel
theorem dX3_copy_38 : decode cX3_copy 38 = .ok (.aload_n 1, 1) := by decide +kernel
theorem dX3_copy_39 : decode cX3_copy 39 = .ok (.getfield 17, 3) := by decide +kernel
theorem dX3_copy_42 : decode cX3_copy 42 = .ok (.putfield 17, 3) := by decide +kernel
theorem dX3_copy_45 : decode cX3_copy 45 = .ok (.aload_n 0, 1) := by decide +kernel
theorem dX3_copy_46 : decode cX3_copy 46 = .ok (.aload_n 1, 1) := by decide +kernel
theorem dX3_copy_47 : decode cX3_copy 47 = .ok (.getfield 29, 3) := by decide +kernel
theorem dX3_copy_50 : decode cX3_copy 50 = .ok (.putfield 29, 3) := by decide +kernel
theorem dX3_copy_53 : decode cX3_copy 53 = .ok (.aload_n 0, 1) := by decide +kernel
theorem dX3_copy_54 : decode cX3_copy 54 = .ok (.aload_n 1, 1) := by decide +kernel
theorem dX3_copy_55 : decode cX3_copy 55 = .ok (.getfield 32, 3) := by decide +kernel
theorem dX3_copy_58 : decode cX3_copy 58 = .ok (.putfield 32, 3) := by decide +kernel
theorem dX3_copy_61 : decode cX3_copy 61 = .ok (.aload_n 0, 1) := by decide +kernel
theorem dX3_copy_62 : decode cX3_copy 62 = .ok (.aload_n 1, 1) := by decide +kernel
theorem dX3_copy_63 : decode cX3_copy 63 = .ok (.getfield 35, 3) := by decide +kernel
theorem dX3_copy_66 : decode cX3_copy 66 = .ok (.putfield 35, 3) := by decide +kernel
theorem dX3_copy_69 : decode cX3_copy 69 = .ok (.aload_n 0, 1) := by decide +kernel
theorem dX3_copy_70 : decode cX3_copy 70 = .ok (.aload_n 1, 1) := by decide +kernel
theorem dX3_copy_71 : decode cX3_copy 71 = .ok (.getfield 38, 3) := by decide +kernel
theorem dX3_copy_74 : decode cX3_copy 74 = .ok (.putfield 38, 3) := by decide +kernel
theorem dX3_copy_77 : decode cX3_copy 77 = .ok (.aload_n 0, 1) := by decide +kernel
theorem dX3_copy_78 : decode cX3_copy 78 = .ok (.aload_n 1, 1) := by decide +kernel
theorem dX3_copy_79 : decode cX3_copy 79 = .ok (.getfield 41, 3) := by decide +kernel
theorem dX3_copy_82 : decode cX3_copy 82 = .ok (.putfield 41, 3) := by decide +kernel
theorem dX3_copy_85 : decode cX3_copy 85 = .ok (.aload_n 0, 1) := by decide +kernel
theorem dX3_copy_86 : decode cX3_copy 86 = .ok (.aload_n 1, 1) := by decide +kernel
theorem dX3_copy_87 : decode cX3_copy 87 = .ok (.getfield 44, 3) := by decide +kernel
theorem dX3_copy_90 : decode cX3_copy 90 = .ok (.putfield 44, 3) := by decide +kernel
theorem dX3_copy_93 : decode cX3_copy 93 = .ok (.aload_n 0, 1) := by decide +kernel
theorem dX3_copy_94 : decode cX3_copy 94 = .ok (.iconst 0, 1) := by decide +kernel
theorem dX3_copy_95 : decode cX3_copy 95 = .ok (.putfield 47, 3) := by decide +kernel
theorem dX3_copy_98 : decode cX3_copy 98 = .ok (.return_, 1) := by decide +kernel
theorem dX3_redefine_0 : decode cX3_redefine 0 = .ok (.aload_n 0, 1) := by decide +kernel
theorem dX3_redefine_1 : decode cX3_redefine 1 = .ok (.getfield 11, 3) := by decide +kernel
theorem dX3_redefine_4 : decode cX3_redefine 4 = .ok (.iload_n 1, 1) := by decide +kernel
theorem dX3_redefine_5 : decode cX3_redefine 5 = .ok (.aaload, 1) := by decide +kernel
theorem dX3_redefine_6 : decode cX3_redefine 6 = .ok (.astore_n 3, 1) := by decide +kernel
theorem dX3_redefine_7 : decode cX3_redefine 7 = .ok (.aload_n 3, 1) := by decide +kernel
theorem dX3_redefine_8 : decode cX3_redefine 8 = .ok (.getfield 50, 3) := by decide +kernel
theorem dX3_redefine_11 : decode cX3_redefine 11 = .ok (.aload_n 2, 1) := by decide +kernel
theorem dX3_redefine_12 : decode cX3_redefine 12 = .ok (.invokevirtual 54, 3) := by decide +kernel
theorem dX3_redefine_15 : decode cX3_redefine 15 = .ok (.ifCond .eq 4, 3) := by decide +kernel
theorem dX3_redefine_18 : decode cX3_redefine 18 = .ok (.return_, 1) := by decide +kernel
theorem dX3_redefine_19 : decode cX3_redefine 19 = .ok (.aload_n 0, 1) := by decide +kernel
theorem dX3_redefine_20 : decode cX3_redefine 20 = .ok (.dup, 1) := by decide +kernel
theorem dX3_redefine_21 : decode cX3_redefine 21 = .ok (.getfield 26, 3) := by decide +kernel
theorem dX3_redefine_24 : decode cX3_redefine 24 = .ok (.iconst 1, 1) := by decide +kernel
theorem dX3_redefine_25 : decode cX3_redefine 25 = .ok (.iadd, 1) := by decide +kernel
theorem dX3_redefine_26 : decode cX3_redefine 26 = .ok (.putfield 26, 3) := by decide +kernel
theorem dX3_redefine_29 : decode cX3_redefine 29 = .ok (.aload_n 3, 1) := by decide +kernel
theorem dX3_redefine_30 : decode cX3_redefine 30 = .ok (.getfield 50, 3) := by decide +kernel
theorem dX3_redefine_33 : decode cX3_redefine 33 = .ok (.aload_n 2, 1) := by decide +kernel
theorem dX3_redefine_34 : decode cX3_redefine 34 = .ok (.invokevirtual 60, 3) := by decide +kernel
theorem dX3_redefine_37 : decode cX3_redefine 37 = .ok (.aload_n 3, 1) := by decide +kernel
theorem dX3_redefine_38 : decode cX3_redefine 38 = .ok (.aload_n 0, 1) := by decide +kernel
theorem dX3_redefine_39 : decode cX3_redefine 39 = .ok (.getfield 26, 3) := by decide +kernel
theorem dX3_redefine_42 : decode cX3_redefine 42 = .ok (.putfield 63, 3) := by decide +kernel
theorem dX3_redefine_45 : decode cX3_redefine 45 = .ok (.aload_n 3, 1) := by decide +kernel
theorem dX3_redefine_46 : decode cX3_redefine 46 = .ok (.iconst 0, 1) := by decide +kernel
theorem dX3_redefine_47 : decode cX3_redefine 47 = .ok (.putfield 66, 3) := by decide +kernel
theorem dX3_redefine_50 : decode cX3_redefine 50 = .ok (.return_, 1) := by decide +kernel
theorem dX3_rememberedAnswers_0 : decode cX3_rememberedAnswers 0 = .ok (.iconst 0, 1) := by decide +kernel
theorem dX3_rememberedAnswers_1 : decode cX3_rememberedAnswers 1 = .ok (.istore_n 1, 1) := by decide +kernel
theorem dX3_rememberedAnswers_2 : decode cX3_rememberedAnswers 2 = .ok (.iconst 0, 1) := by decide +kernel
theorem dX3_rememberedAnswers_3 : decode cX3_rememberedAnswers 3 = .ok (.istore_n 2, 1) := by decide +kernel
theorem dX3_rememberedAnswers_4 : decode cX3_rememberedAnswers 4 = .ok (.iload_n 2, 1) := by decide +kernel
theorem dX3_rememberedAnswers_5 : decode cX3_rememberedAnswers 5 = .ok (.bipush 10, 2) := by decide +kernel
theorem dX3_rememberedAnswers_7 : decode cX3_rememberedAnswers 7 = .ok (.if_icmp .ge 24, 3) := by decide +kernel
theorem dX3_rememberedAnswers_10 : decode cX3_rememberedAnswers 10 = .ok (.aload_n 0, 1) := by decide +kernel
theorem dX3_rememberedAnswers_11 : decode cX3_rememberedAnswers 11 = .ok (.getfield 11, 3) := by decide +kernel
theorem dX3_rememberedAnswers_14 : decode cX3_rememberedAnswers 14 = .ok (.iload_n 2, 1) := by decide +kernel
theorem dX3_rememberedAnswers_15 : decode cX3_rememberedAnswers 15 = .ok (.aaload, 1) := by decide +kernel
theorem dX3_rememberedAnswers_16 : decode cX3_rememberedAnswers 16 = .ok (.getfield 66, 3) := by decide +kernel
theorem dX3_rememberedAnswers_19 : decode cX3_rememberedAnswers 19 = .ok (.ifCond .eq 6, 3) := by decide +kernel
theorem dX3_rememberedAnswers_22 : decode cX3_rememberedAnswers 22 = .ok (.iinc 1 1, 3) := by decide +kernel
theorem dX3_rememberedAnswers_25 : decode cX3_rememberedAnswers 25 = .ok (.iinc 2 1, 3) := by decide +kernel
theorem dX3_rememberedAnswers_28 : decode cX3_rememberedAnswers 28 = .ok (.goto (-24), 3) := by decide +kernel
theorem dX3_rememberedAnswers_31 : decode cX3_rememberedAnswers 31 = .ok (.iload_n 1, 1) := by decide +kernel
theorem dX3_rememberedAnswers_32 : decode cX3_rememberedAnswers 32 = .ok (.ireturn, 1) := by decide +kernel
theorem dX3_placeOf_0 : decode cX3_placeOf 0 = .ok (.iconst 0, 1) := by decide +kernel
theorem dX3_placeOf_1 : decode cX3_placeOf 1 = .ok (.istore_n 2, 1) := by decide +kernel
theorem dX3_placeOf_2 : decode cX3_placeOf 2 = .ok (.iconst 0, 1) := by decide +kernel
theorem dX3_placeOf_3 : decode cX3_placeOf 3 = .ok (.istore_n 3, 1) := by decide +kernel
theorem dX3_placeOf_4 : decode cX3_placeOf 4 = .ok (.iload_n 3, 1) := by decide +kernel
theorem dX3_placeOf_5 : decode cX3_placeOf 5 = .ok (.bipush 10, 2) := by decide +kernel
theorem dX3_placeOf_7 : decode cX3_placeOf 7 = .ok (.if_icmp .ge 45, 3) := by decide +kernel
theorem dX3_placeOf_10 : decode cX3_placeOf 10 = .ok (.aload_n 0, 1) := by decide +kernel
theorem dX3_placeOf_11 : decode cX3_placeOf 11 = .ok (.getfield 11, 3) := by decide +kernel
theorem dX3_placeOf_14 : decode cX3_placeOf 14 = .ok (.iload_n 3, 1) := by decide +kernel
theorem dX3_placeOf_15 : decode cX3_placeOf 15 = .ok (.aaload, 1) := by decide +kernel
theorem dX3_placeOf_16 : decode cX3_placeOf 16 = .ok (.getfield 66, 3) := by decide +kernel
theorem dX3_placeOf_19 : decode cX3_placeOf 19 = .ok (.ifCond .eq 27, 3) := by decide +kernel
theorem dX3_placeOf_22 : decode cX3_placeOf 22 = .ok (.aload_n 0, 1) := by decide +kernel
theorem dX3_placeOf_23 : decode cX3_placeOf 23 = .ok (.getfield 11, 3) := by decide +kernel
theorem dX3_placeOf_26 : decode cX3_placeOf 26 = .ok (.iload_n 3, 1) := by decide +kernel
theorem dX3_placeOf_27 : decode cX3_placeOf 27 = .ok (.aaload, 1) := by decide +kernel
theorem dX3_placeOf_28 : decode cX3_placeOf 28 = .ok (.getfield 70, 3) := by decide +kernel
theorem dX3_placeOf_31 : decode cX3_placeOf 31 = .ok (.aload_n 0, 1) := by decide +kernel
theorem dX3_placeOf_32 : decode cX3_placeOf 32 = .ok (.getfield 11, 3) := by decide +kernel
theorem dX3_placeOf_35 : decode cX3_placeOf 35 = .ok (.iload_n 1, 1) := by decide +kernel
theorem dX3_placeOf_36 : decode cX3_placeOf 36 = .ok (.aaload, 1) := by decide +kernel
theorem dX3_placeOf_37 : decode cX3_placeOf 37 = .ok (.getfield 70, 3) := by decide +kernel
theorem dX3_placeOf_40 : decode cX3_placeOf 40 = .ok (.if_icmp .ge 6, 3) := by decide +kernel
theorem dX3_placeOf_43 : decode cX3_placeOf 43 = .ok (.iinc 2 1, 3) := by decide +kernel
theorem dX3_placeOf_46 : decode cX3_placeOf 46 = .ok (.iinc 3 1, 3) := by decide +kernel
theorem dX3_placeOf_49 : decode cX3_placeOf 49 = .ok (.goto (-45), 3) := by decide +kernel
theorem dX3_placeOf_52 : decode cX3_placeOf 52 = .ok (.iload_n 2, 1) := by decide +kernel
theorem dX3_placeOf_53 : decode cX3_placeOf 53 = .ok (.ireturn, 1) := by decide +kernel
theorem dX3_forgetAnswer_0 : decode cX3_forgetAnswer 0 = .ok (.aload_n 0, 1) := by decide +kernel
theorem dX3_forgetAnswer_1 : decode cX3_forgetAnswer 1 = .ok (.getfield 11, 3) := by decide +kernel
theorem dX3_forgetAnswer_4 : decode cX3_forgetAnswer 4 = .ok (.iload_n 1, 1) := by decide +kernel
theorem dX3_forgetAnswer_5 : decode cX3_forgetAnswer 5 = .ok (.aaload, 1) := by decide +kernel
theorem dX3_forgetAnswer_6 : decode cX3_forgetAnswer 6 = .ok (.iconst 0, 1) := by decide +kernel
theorem dX3_forgetAnswer_7 : decode cX3_forgetAnswer 7 = .ok (.putfield 66, 3) := by decide +kernel
theorem dX3_forgetAnswer_10 : decode cX3_forgetAnswer 10 = .ok (.aload_n 0, 1) := by decide +kernel
theorem dX3_forgetAnswer_11 : decode cX3_forgetAnswer 11 = .ok (.dup, 1) := by decide +kernel
theorem dX3_forgetAnswer_12 : decode cX3_forgetAnswer 12 = .ok (.getfield 38, 3) := by decide +kernel
theorem dX3_forgetAnswer_15 : decode cX3_forgetAnswer 15 = .ok (.iconst 1, 1) := by decide +kernel
theorem dX3_forgetAnswer_16 : decode cX3_forgetAnswer 16 = .ok (.iadd, 1) := by decide +kernel
theorem dX3_forgetAnswer_17 : decode cX3_forgetAnswer 17 = .ok (.putfield 38, 3) := by decide +kernel
theorem dX3_forgetAnswer_20 : decode cX3_forgetAnswer 20 = .ok (.return_, 1) := by decide +kernel
theorem dX3_forgetBeyondBound_0 : decode cX3_forgetBeyondBound 0 = .ok (.aload_n 0, 1) := by decide +kernel
theorem dX3_forgetBeyondBound_1 : decode cX3_forgetBeyondBound 1 = .ok (.invokevirtual 73, 3) := by decide +kernel
theorem dX3_forgetBeyondBound_4 : decode cX3_forgetBeyondBound 4 = .ok (.aload_n 0, 1) := by decide +kernel
theorem dX3_forgetBeyondBound_5 : decode cX3_forgetBeyondBound 5 = .ok (.getfield 17, 3) := by decide +kernel
theorem dX3_forgetBeyondBound_8 : decode cX3_forgetBeyondBound 8 = .ok (.isub, 1) := by decide +kernel
theorem dX3_forgetBeyondBound_9 : decode cX3_forgetBeyondBound 9 = .ok (.istore_n 1, 1) := by decide +kernel
theorem dX3_forgetBeyondBound_10 : decode cX3_forgetBeyondBound 10 = .ok (.iconst 0, 1) := by decide +kernel
theorem dX3_forgetBeyondBound_11 : decode cX3_forgetBeyondBound 11 = .ok (.istore_n 2, 1) := by decide +kernel
theorem dX3_forgetBeyondBound_12 : decode cX3_forgetBeyondBound 12 = .ok (.iload_n 2, 1) := by decide +kernel
theorem dX3_forgetBeyondBound_13 : decode cX3_forgetBeyondBound 13 = .ok (.iload_n 1, 1) := by decide +kernel
theorem dX3_forgetBeyondBound_14 : decode cX3_forgetBeyondBound 14 = .ok (.if_icmp .ge 13, 3) := by decide +kernel
theorem dX3_forgetBeyondBound_17 : decode cX3_forgetBeyondBound 17 = .ok (.aload_n 0, 1) := by decide +kernel
theorem dX3_forgetBeyondBound_18 : decode cX3_forgetBeyondBound 18 = .ok (.invokevirtual 77, 3) := by decide +kernel
theorem dX3_forgetBeyondBound_21 : decode cX3_forgetBeyondBound 21 = .ok (.iinc 2 1, 3) := by decide +kernel
theorem dX3_forgetBeyondBound_24 : decode cX3_forgetBeyondBound 24 = .ok (.goto (-12), 3) := by decide +kernel
theorem dX3_forgetBeyondBound_27 : decode cX3_forgetBeyondBound 27 = .ok (.return_, 1) := by decide +kernel
theorem dX3_forgetOldest_0 : decode cX3_forgetOldest 0 = .ok (.iconst (-1), 1) := by decide +kernel
theorem dX3_forgetOldest_1 : decode cX3_forgetOldest 1 = .ok (.istore_n 1, 1) := by decide +kernel
theorem dX3_forgetOldest_2 : decode cX3_forgetOldest 2 = .ok (.iconst 0, 1) := by decide +kernel
theorem dX3_forgetOldest_3 : decode cX3_forgetOldest 3 = .ok (.istore_n 2, 1) := by decide +kernel
theorem dX3_forgetOldest_4 : decode cX3_forgetOldest 4 = .ok (.iload_n 2, 1) := by decide +kernel
theorem dX3_forgetOldest_5 : decode cX3_forgetOldest 5 = .ok (.bipush 10, 2) := by decide +kernel
theorem dX3_forgetOldest_7 : decode cX3_forgetOldest 7 = .ok (.if_icmp .ge 49, 3) := by decide +kernel
theorem dX3_forgetOldest_10 : decode cX3_forgetOldest 10 = .ok (.aload_n 0, 1) := by decide +kernel
theorem dX3_forgetOldest_11 : decode cX3_forgetOldest 11 = .ok (.getfield 11, 3) := by decide +kernel
theorem dX3_forgetOldest_14 : decode cX3_forgetOldest 14 = .ok (.iload_n 2, 1) := by decide +kernel
theorem dX3_forgetOldest_15 : decode cX3_forgetOldest 15 = .ok (.aaload, 1) := by decide +kernel
theorem dX3_forgetOldest_16 : decode cX3_forgetOldest 16 = .ok (.getfield 66, 3) := by decide +kernel
theorem dX3_forgetOldest_19 : decode cX3_forgetOldest 19 = .ok (.ifCond .eq 31, 3) := by decide +kernel
theorem dX3_forgetOldest_22 : decode cX3_forgetOldest 22 = .ok (.iload_n 1, 1) := by decide +kernel
theorem dX3_forgetOldest_23 : decode cX3_forgetOldest 23 = .ok (.iconst (-1), 1) := by decide +kernel
theorem dX3_forgetOldest_24 : decode cX3_forgetOldest 24 = .ok (.if_icmp .eq 24, 3) := by decide +kernel
theorem dX3_forgetOldest_27 : decode cX3_forgetOldest 27 = .ok (.aload_n 0, 1) := by decide +kernel
theorem dX3_forgetOldest_28 : decode cX3_forgetOldest 28 = .ok (.getfield 11, 3) := by decide +kernel
theorem dX3_forgetOldest_31 : decode cX3_forgetOldest 31 = .ok (.iload_n 2, 1) := by decide +kernel
theorem dX3_forgetOldest_32 : decode cX3_forgetOldest 32 = .ok (.aaload, 1) := by decide +kernel
theorem dX3_forgetOldest_33 : decode cX3_forgetOldest 33 = .ok (.getfield 70, 3) := by decide +kernel
theorem dX3_forgetOldest_36 : decode cX3_forgetOldest 36 = .ok (.aload_n 0, 1) := by decide +kernel
theorem dX3_forgetOldest_37 : decode cX3_forgetOldest 37 = .ok (.getfield 11, 3) := by decide +kernel
theorem dX3_forgetOldest_40 : decode cX3_forgetOldest 40 = .ok (.iload_n 1, 1) := by decide +kernel
theorem dX3_forgetOldest_41 : decode cX3_forgetOldest 41 = .ok (.aaload, 1) := by decide +kernel
theorem dX3_forgetOldest_42 : decode cX3_forgetOldest 42 = .ok (.getfield 70, 3) := by decide +kernel
theorem dX3_forgetOldest_45 : decode cX3_forgetOldest 45 = .ok (.if_icmp .ge 5, 3) := by decide +kernel
theorem dX3_forgetOldest_48 : decode cX3_forgetOldest 48 = .ok (.iload_n 2, 1) := by decide +kernel
theorem dX3_forgetOldest_49 : decode cX3_forgetOldest 49 = .ok (.istore_n 1, 1) := by decide +kernel
theorem dX3_forgetOldest_50 : decode cX3_forgetOldest 50 = .ok (.iinc 2 1, 3) := by decide +kernel
theorem dX3_forgetOldest_53 : decode cX3_forgetOldest 53 = .ok (.goto (-49), 3) := by decide +kernel
theorem dX3_forgetOldest_56 : decode cX3_forgetOldest 56 = .ok (.iload_n 1, 1) := by decide +kernel
theorem dX3_forgetOldest_57 : decode cX3_forgetOldest 57 = .ok (.iconst (-1), 1) := by decide +kernel
theorem dX3_forgetOldest_58 : decode cX3_forgetOldest 58 = .ok (.if_icmp .eq 8, 3) := by decide +kernel
theorem dX3_forgetOldest_61 : decode cX3_forgetOldest 61 = .ok (.aload_n 0, 1) := by decide +kernel
theorem dX3_forgetOldest_62 : decode cX3_forgetOldest 62 = .ok (.iload_n 1, 1) := by decide +kernel
theorem dX3_forgetOldest_63 : decode cX3_forgetOldest 63 = .ok (.invokevirtual 80, 3) := by decide +kernel
theorem dX3_forgetOldest_66 : decode cX3_forgetOldest 66 = .ok (.return_, 1) := by decide +kernel
theorem dX3_dropAnswers_0 : decode cX3_dropAnswers 0 = .ok (.iconst 0, 1) := by decide +kernel
theorem dX3_dropAnswers_1 : decode cX3_dropAnswers 1 = .ok (.istore_n 1, 1) := by decide +kernel
theorem dX3_dropAnswers_2 : decode cX3_dropAnswers 2 = .ok (.iload_n 1, 1) := by decide +kernel
theorem dX3_dropAnswers_3 : decode cX3_dropAnswers 3 = .ok (.bipush 10, 2) := by decide +kernel
theorem dX3_dropAnswers_5 : decode cX3_dropAnswers 5 = .ok (.if_icmp .ge 19, 3) := by decide +kernel
theorem dX3_dropAnswers_8 : decode cX3_dropAnswers 8 = .ok (.aload_n 0, 1) := by decide +kernel
theorem dX3_dropAnswers_9 : decode cX3_dropAnswers 9 = .ok (.getfield 11, 3) := by decide +kernel
theorem dX3_dropAnswers_12 : decode cX3_dropAnswers 12 = .ok (.iload_n 1, 1) := by decide +kernel
theorem dX3_dropAnswers_13 : decode cX3_dropAnswers 13 = .ok (.aaload, 1) := by decide +kernel
theorem dX3_dropAnswers_14 : decode cX3_dropAnswers 14 = .ok (.iconst 0, 1) := by decide +kernel
theorem dX3_dropAnswers_15 : decode cX3_dropAnswers 15 = .ok (.putfield 66, 3) := by decide +kernel
theorem dX3_dropAnswers_18 : decode cX3_dropAnswers 18 = .ok (.iinc 1 1, 3) := by decide +kernel
theorem dX3_dropAnswers_21 : decode cX3_dropAnswers 21 = .ok (.goto (-19), 3) := by decide +kernel
theorem dX3_dropAnswers_24 : decode cX3_dropAnswers 24 = .ok (.return_, 1) := by decide +kernel
theorem dX3_lookAt_0 : decode cX3_lookAt 0 = .ok (.aload_n 0, 1) := by decide +kernel
theorem dX3_lookAt_1 : decode cX3_lookAt 1 = .ok (.iload_n 1, 1) := by decide +kernel
theorem dX3_lookAt_2 : decode cX3_lookAt 2 = .ok (.iconst 0, 1) := by decide +kernel
theorem dX3_lookAt_3 : decode cX3_lookAt 3 = .ok (.invokevirtual 84, 3) := by decide +kernel
theorem dX3_lookAt_6 : decode cX3_lookAt 6 = .ok (.iconst (-1), 1) := by decide +kernel
theorem dX3_lookAt_7 : decode cX3_lookAt 7 = .ok (.if_icmp .eq 7, 3) := by decide +kernel
theorem dX3_lookAt_10 : decode cX3_lookAt 10 = .ok (.iconst 1, 1) := by decide +kernel
theorem dX3_lookAt_11 : decode cX3_lookAt 11 = .ok (.goto 4, 3) := by decide +kernel
theorem dX3_lookAt_14 : decode cX3_lookAt 14 = .ok (.iconst 0, 1) := by decide +kernel
theorem dX3_lookAt_15 : decode cX3_lookAt 15 = .ok (.ireturn, 1) := by decide +kernel
theorem dX3_look_0 : decode cX3_look 0 = .ok (.aload_n 0, 1) := by decide +kernel
theorem dX3_look_1 : decode cX3_look 1 = .ok (.getfield 11, 3) := by decide +kernel
theorem dX3_look_4 : decode cX3_look 4 = .ok (.iload_n 1, 1) := by decide +kernel
theorem dX3_look_5 : decode cX3_look 5 = .ok (.aaload, 1) := by decide +kernel
theorem dX3_look_6 : decode cX3_look 6 = .ok (.astore_n 3, 1) := by decide +kernel
theorem dX3_look_7 : decode cX3_look 7 = .ok (.aload_n 0, 1) := by decide +kernel
theorem dX3_look_8 : decode cX3_look 8 = .ok (.dup, 1) := by decide +kernel
theorem dX3_look_9 : decode cX3_look 9 = .ok (.getfield 47, 3) := by decide +kernel
theorem dX3_look_12 : decode cX3_look 12 = .ok (.iconst 1, 1) := by decide +kernel
theorem dX3_look_13 : decode cX3_look 13 = .ok (.iload_n 1, 1) := by decide +kernel
theorem dX3_look_14 : decode cX3_look 14 = .ok (.ishl, 1) := by decide +kernel
theorem dX3_look_15 : decode cX3_look 15 = .ok (.ior, 1) := by decide +kernel
theorem dX3_look_16 : decode cX3_look 16 = .ok (.putfield 47, 3) := by decide +kernel
theorem dX3_look_19 : decode cX3_look 19 = .ok (.aload_n 3, 1) := by decide +kernel
theorem dX3_look_20 : decode cX3_look 20 = .ok (.getfield 50, 3) := by decide +kernel
theorem dX3_look_23 : decode cX3_look 23 = .ok (.getfield 88, 3) := by decide +kernel
theorem dX3_look_26 : decode cX3_look 26 = .ok (.iconst (-1), 1) := by decide +kernel
theorem dX3_look_27 : decode cX3_look 27 = .ok (.if_icmp .ne 8, 3) := by decide +kernel
theorem dX3_look_30 : decode cX3_look 30 = .ok (.aload_n 3, 1) := by decide +kernel
theorem dX3_look_31 : decode cX3_look 31 = .ok (.getfield 63, 3) := by decide +kernel
theorem dX3_look_34 : decode cX3_look 34 = .ok (.ireturn, 1) := by decide +kernel
theorem dX3_look_35 : decode cX3_look 35 = .ok (.aload_n 3, 1) := by decide +kernel
theorem dX3_look_36 : decode cX3_look 36 = .ok (.getfield 91, 3) := by decide +kernel
theorem dX3_look_39 : decode cX3_look 39 = .ok (.ifCond .ne 9, 3) := by decide +kernel
theorem dX3_look_42 : decode cX3_look 42 = .ok (.iload_n 2, 1) := by decide +kernel
theorem dX3_look_43 : decode cX3_look 43 = .ok (.bipush 10, 2) := by decide +kernel
theorem dX3_look_45 : decode cX3_look 45 = .ok (.if_icmp .lt 5, 3) := by decide +kernel
theorem dX3_look_48 : decode cX3_look 48 = .ok (.iconst (-1), 1) := by decide +kernel
theorem dX3_look_49 : decode cX3_look 49 = .ok (.ireturn, 1) := by decide +kernel
theorem dX3_look_50 : decode cX3_look 50 = .ok (.aload_n 3, 1) := by decide +kernel
theorem dX3_look_51 : decode cX3_look 51 = .ok (.getfield 66, 3) := by decide +kernel
theorem dX3_look_54 : decode cX3_look 54 = .ok (.ifCond .eq 27, 3) := by decide +kernel
theorem dX3_look_57 : decode cX3_look 57 = .ok (.aload_n 3, 1) := by decide +kernel
theorem dX3_look_58 : decode cX3_look 58 = .ok (.getfield 94, 3) := by decide +kernel
theorem dX3_look_61 : decode cX3_look 61 = .ok (.aload_n 0, 1) := by decide +kernel
theorem dX3_look_62 : decode cX3_look 62 = .ok (.getfield 26, 3) := by decide +kernel
theorem dX3_look_65 : decode cX3_look 65 = .ok (.if_icmp .ne 16, 3) := by decide +kernel
theorem dX3_look_68 : decode cX3_look 68 = .ok (.aload_n 0, 1) := by decide +kernel
theorem dX3_look_69 : decode cX3_look 69 = .ok (.dup, 1) := by decide +kernel
theorem dX3_look_70 : decode cX3_look 70 = .ok (.getfield 35, 3) := by decide +kernel
theorem dX3_look_73 : decode cX3_look 73 = .ok (.iconst 1, 1) := by decide +kernel
theorem dX3_look_74 : decode cX3_look 74 = .ok (.iadd, 1) := by decide +kernel
theorem dX3_look_75 : decode cX3_look 75 = .ok (.putfield 35, 3) := by decide +kernel
theorem dX3_look_78 : decode cX3_look 78 = .ok (.goto 30, 3) := by decide +kernel
theorem dX3_look_81 : decode cX3_look 81 = .ok (.aload_n 3, 1) := by decide +kernel
theorem dX3_look_82 : decode cX3_look 82 = .ok (.iconst 1, 1) := by decide +kernel
theorem dX3_look_83 : decode cX3_look 83 = .ok (.putfield 91, 3) := by decide +kernel
theorem dX3_look_86 : decode cX3_look 86 = .ok (.aload_n 0, 1) := by decide +kernel
theorem dX3_look_87 : decode cX3_look 87 = .ok (.aload_n 3, 1) := by decide +kernel
theorem dX3_look_88 : decode cX3_look 88 = .ok (.iload_n 2, 1) := by decide +kernel
theorem dX3_look_89 : decode cX3_look 89 = .ok (.iconst 1, 1) := by decide +kernel
theorem dX3_look_90 : decode cX3_look 90 = .ok (.iadd, 1) := by decide +kernel
theorem dX3_look_91 : decode cX3_look 91 = .ok (.invokevirtual 97, 3) := by decide +kernel
theorem dX3_look_94 : decode cX3_look 94 = .ok (.istore 4, 2) := by decide +kernel
theorem dX3_look_96 : decode cX3_look 96 = .ok (.aload_n 3, 1) := by decide +kernel
theorem dX3_look_97 : decode cX3_look 97 = .ok (.iconst 0, 1) := by decide +kernel
theorem dX3_look_98 : decode cX3_look 98 = .ok (.putfield 91, 3) := by decide +kernel
theorem dX3_look_101 : decode cX3_look 101 = .ok (.iload 4, 2) := by decide +kernel
theorem dX3_look_103 : decode cX3_look 103 = .ok (.ifCond .ne 5, 3) := by decide +kernel
theorem dX3_look_106 : decode cX3_look 106 = .ok (.iconst (-1), 1) := by decide +kernel
theorem dX3_look_107 : decode cX3_look 107 = .ok (.ireturn, 1) := by decide +kernel
theorem dX3_look_108 : decode cX3_look 108 = .ok (.aload_n 0, 1) := by decide +kernel
theorem dX3_look_109 : decode cX3_look 109 = .ok (.dup, 1) := by decide +kernel
theorem dX3_look_110 : decode cX3_look 110 = .ok (.getfield 44, 3) := by decide +kernel
theorem dX3_look_113 : decode cX3_look 113 = .ok (.iconst 1, 1) := by decide +kernel
theorem dX3_look_114 : decode cX3_look 114 = .ok (.iadd, 1) := by decide +kernel
theorem dX3_look_115 : decode cX3_look 115 = .ok (.putfield 44, 3) := by decide +kernel
theorem dX3_look_118 : decode cX3_look 118 = .ok (.aload_n 3, 1) := by decide +kernel
theorem dX3_look_119 : decode cX3_look 119 = .ok (.aload_n 0, 1) := by decide +kernel
theorem dX3_look_120 : decode cX3_look 120 = .ok (.getfield 44, 3) := by decide +kernel
theorem dX3_look_123 : decode cX3_look 123 = .ok (.putfield 70, 3) := by decide +kernel
theorem dX3_look_126 : decode cX3_look 126 = .ok (.aload_n 3, 1) := by decide +kernel
theorem dX3_look_127 : decode cX3_look 127 = .ok (.getfield 63, 3) := by decide +kernel
theorem dX3_look_130 : decode cX3_look 130 = .ok (.ireturn, 1) := by decide +kernel
theorem dX3_bringUpToDate_0 : decode cX3_bringUpToDate 0 = .ok (.aload_n 1, 1) := by decide +kernel
theorem dX3_bringUpToDate_1 : decode cX3_bringUpToDate 1 = .ok (.getfield 66, 3) := by decide +kernel
theorem dX3_bringUpToDate_4 : decode cX3_bringUpToDate 4 = .ok (.ifCond .ne 10, 3) := by decide +kernel
theorem dX3_bringUpToDate_7 : decode cX3_bringUpToDate 7 = .ok (.aload_n 0, 1) := by decide +kernel
theorem dX3_bringUpToDate_8 : decode cX3_bringUpToDate 8 = .ok (.aload_n 1, 1) := by decide +kernel
theorem dX3_bringUpToDate_9 : decode cX3_bringUpToDate 9 = .ok (.iload_n 2, 1) := by decide +kernel
theorem dX3_bringUpToDate_10 : decode cX3_bringUpToDate 10 = .ok (.invokevirtual 101, 3) := by decide +kernel
theorem dX3_bringUpToDate_13 : decode cX3_bringUpToDate 13 = .ok (.ireturn, 1) := by decide +kernel
theorem dX3_bringUpToDate_14 : decode cX3_bringUpToDate 14 = .ok (.aload_n 0, 1) := by decide +kernel
theorem dX3_bringUpToDate_15 : decode cX3_bringUpToDate 15 = .ok (.aload_n 1, 1) := by decide +kernel
theorem dX3_bringUpToDate_16 : decode cX3_bringUpToDate 16 = .ok (.iload_n 2, 1) := by decide +kernel
theorem dX3_bringUpToDate_17 : decode cX3_bringUpToDate 17 = .ok (.invokevirtual 104, 3) := by decide +kernel
theorem dX3_bringUpToDate_20 : decode cX3_bringUpToDate 20 = .ok (.istore_n 3, 1) := by decide +kernel
theorem dX3_bringUpToDate_21 : decode cX3_bringUpToDate 21 = .ok (.iload_n 3, 1) := by decide +kernel
theorem dX3_bringUpToDate_22 : decode cX3_bringUpToDate 22 = .ok (.iconst (-1), 1) := by decide +kernel
theorem dX3_bringUpToDate_23 : decode cX3_bringUpToDate 23 = .ok (.if_icmp .ne 5, 3) := by decide +kernel
theorem dX3_bringUpToDate_26 : decode cX3_bringUpToDate 26 = .ok (.iconst 0, 1) := by decide +kernel
theorem dX3_bringUpToDate_27 : decode cX3_bringUpToDate 27 = .ok (.ireturn, 1) := by decide +kernel
theorem dX3_bringUpToDate_28 : decode cX3_bringUpToDate 28 = .ok (.iload_n 3, 1) := by decide +kernel
theorem dX3_bringUpToDate_29 : decode cX3_bringUpToDate 29 = .ok (.aload_n 1, 1) := by decide +kernel
theorem dX3_bringUpToDate_30 : decode cX3_bringUpToDate 30 = .ok (.getfield 94, 3) := by decide +kernel
theorem dX3_bringUpToDate_33 : decode cX3_bringUpToDate 33 = .ok (.if_icmp .le 10, 3) := by decide +kernel
theorem dX3_bringUpToDate_36 : decode cX3_bringUpToDate 36 = .ok (.aload_n 0, 1) := by decide +kernel
theorem dX3_bringUpToDate_37 : decode cX3_bringUpToDate 37 = .ok (.aload_n 1, 1) := by decide +kernel
theorem dX3_bringUpToDate_38 : decode cX3_bringUpToDate 38 = .ok (.iload_n 2, 1) := by decide +kernel
theorem dX3_bringUpToDate_39 : decode cX3_bringUpToDate 39 = .ok (.invokevirtual 101, 3) := by decide +kernel
theorem dX3_bringUpToDate_42 : decode cX3_bringUpToDate 42 = .ok (.ireturn, 1) := by decide +kernel
theorem dX3_bringUpToDate_43 : decode cX3_bringUpToDate 43 = .ok (.aload_n 0, 1) := by decide +kernel
theorem dX3_bringUpToDate_44 : decode cX3_bringUpToDate 44 = .ok (.dup, 1) := by decide +kernel
theorem dX3_bringUpToDate_45 : decode cX3_bringUpToDate 45 = .ok (.getfield 32, 3) := by decide +kernel
theorem dX3_bringUpToDate_48 : decode cX3_bringUpToDate 48 = .ok (.iconst 1, 1) := by decide +kernel
theorem dX3_bringUpToDate_49 : decode cX3_bringUpToDate 49 = .ok (.iadd, 1) := by decide +kernel
theorem dX3_bringUpToDate_50 : decode cX3_bringUpToDate 50 = .ok (.putfield 32, 3) := by decide +kernel
theorem dX3_bringUpToDate_53 : decode cX3_bringUpToDate 53 = .ok (.aload_n 1, 1) := by decide +kernel
theorem dX3_bringUpToDate_54 : decode cX3_bringUpToDate 54 = .ok (.aload_n 0, 1) := by decide +kernel
theorem dX3_bringUpToDate_55 : decode cX3_bringUpToDate 55 = .ok (.getfield 26, 3) := by decide +kernel
theorem dX3_bringUpToDate_58 : decode cX3_bringUpToDate 58 = .ok (.putfield 94, 3) := by decide +kernel
theorem dX3_bringUpToDate_61 : decode cX3_bringUpToDate 61 = .ok (.iconst 1, 1) := by decide +kernel
theorem dX3_bringUpToDate_62 : decode cX3_bringUpToDate 62 = .ok (.ireturn, 1) := by decide +kernel
theorem dX3_lookForChange_0 : decode cX3_lookForChange 0 = .ok (.aload_n 0, 1) := by decide +kernel
theorem dX3_lookForChange_1 : decode cX3_lookForChange 1 = .ok (.aload_n 1, 1) := by decide +kernel
theorem dX3_lookForChange_2 : decode cX3_lookForChange 2 = .ok (.getfield 50, 3) := by decide +kernel
theorem dX3_lookForChange_5 : decode cX3_lookForChange 5 = .ok (.getfield 108, 3) := by decide +kernel
theorem dX3_lookForChange_8 : decode cX3_lookForChange 8 = .ok (.iload_n 2, 1) := by decide +kernel
theorem dX3_lookForChange_9 : decode cX3_lookForChange 9 = .ok (.invokevirtual 84, 3) := by decide +kernel
theorem dX3_lookForChange_12 : decode cX3_lookForChange 12 = .ok (.istore_n 3, 1) := by decide +kernel
theorem dX3_lookForChange_13 : decode cX3_lookForChange 13 = .ok (.iload_n 3, 1) := by decide +kernel
theorem dX3_lookForChange_14 : decode cX3_lookForChange 14 = .ok (.iconst (-1), 1) := by decide +kernel
theorem dX3_lookForChange_15 : decode cX3_lookForChange 15 = .ok (.if_icmp .eq 19, 3) := by decide +kernel
theorem dX3_lookForChange_18 : decode cX3_lookForChange 18 = .ok (.iload_n 3, 1) := by decide +kernel
theorem dX3_lookForChange_19 : decode cX3_lookForChange 19 = .ok (.aload_n 1, 1) := by decide +kernel
theorem dX3_lookForChange_20 : decode cX3_lookForChange 20 = .ok (.getfield 94, 3) := by decide +kernel
theorem dX3_lookForChange_23 : decode cX3_lookForChange 23 = .ok (.if_icmp .gt 11, 3) := by decide +kernel
theorem dX3_lookForChange_26 : decode cX3_lookForChange 26 = .ok (.aload_n 1, 1) := by decide +kernel
theorem dX3_lookForChange_27 : decode cX3_lookForChange 27 = .ok (.getfield 111, 3) := by decide +kernel
theorem dX3_lookForChange_30 : decode cX3_lookForChange 30 = .ok (.iconst (-1), 1) := by decide +kernel
theorem dX3_lookForChange_31 : decode cX3_lookForChange 31 = .ok (.if_icmp .ne 5, 3) := by decide +kernel
theorem dX3_lookForChange_34 : decode cX3_lookForChange 34 = .ok (.iload_n 3, 1) := by decide +kernel
theorem dX3_lookForChange_35 : decode cX3_lookForChange 35 = .ok (.ireturn, 1) := by decide +kernel
theorem dX3_lookForChange_36 : decode cX3_lookForChange 36 = .ok (.aload_n 0, 1) := by decide +kernel
theorem dX3_lookForChange_37 : decode cX3_lookForChange 37 = .ok (.aload_n 1, 1) := by decide +kernel
theorem dX3_lookForChange_38 : decode cX3_lookForChange 38 = .ok (.getfield 111, 3) := by decide +kernel
theorem dX3_lookForChange_41 : decode cX3_lookForChange 41 = .ok (.iload_n 2, 1) := by decide +kernel
theorem dX3_lookForChange_42 : decode cX3_lookForChange 42 = .ok (.invokevirtual 84, 3) := by decide +kernel
theorem dX3_lookForChange_45 : decode cX3_lookForChange 45 = .ok (.ireturn, 1) := by decide +kernel
theorem dX3_workOut_0 : decode cX3_workOut 0 = .ok (.aload_n 1, 1) := by decide +kernel
theorem dX3_workOut_1 : decode cX3_workOut 1 = .ok (.getfield 50, 3) := by decide +kernel
theorem dX3_workOut_4 : decode cX3_workOut 4 = .ok (.astore_n 3, 1) := by decide +kernel
theorem dX3_workOut_5 : decode cX3_workOut 5 = .ok (.aload_n 0, 1) := by decide +kernel
theorem dX3_workOut_6 : decode cX3_workOut 6 = .ok (.aload_n 3, 1) := by decide +kernel
theorem dX3_workOut_7 : decode cX3_workOut 7 = .ok (.getfield 108, 3) := by decide +kernel
theorem dX3_workOut_10 : decode cX3_workOut 10 = .ok (.iload_n 2, 1) := by decide +kernel
theorem dX3_workOut_11 : decode cX3_workOut 11 = .ok (.invokevirtual 84, 3) := by decide +kernel
theorem dX3_workOut_14 : decode cX3_workOut 14 = .ok (.iconst (-1), 1) := by decide +kernel
theorem dX3_workOut_15 : decode cX3_workOut 15 = .ok (.if_icmp .ne 5, 3) := by decide +kernel
theorem dX3_workOut_18 : decode cX3_workOut 18 = .ok (.iconst 0, 1) := by decide +kernel
theorem dX3_workOut_19 : decode cX3_workOut 19 = .ok (.ireturn, 1) := by decide +kernel
theorem dX3_workOut_20 : decode cX3_workOut 20 = .ok (.aload_n 0, 1) := by decide +kernel
theorem dX3_workOut_21 : decode cX3_workOut 21 = .ok (.getfield 11, 3) := by decide +kernel
theorem dX3_workOut_24 : decode cX3_workOut 24 = .ok (.aload_n 3, 1) := by decide +kernel
theorem dX3_workOut_25 : decode cX3_workOut 25 = .ok (.getfield 108, 3) := by decide +kernel
theorem dX3_workOut_28 : decode cX3_workOut 28 = .ok (.aaload, 1) := by decide +kernel
theorem dX3_workOut_29 : decode cX3_workOut 29 = .ok (.invokevirtual 114, 3) := by decide +kernel
theorem dX3_workOut_32 : decode cX3_workOut 32 = .ok (.istore 4, 2) := by decide +kernel
theorem dX3_workOut_34 : decode cX3_workOut 34 = .ok (.aload_n 3, 1) := by decide +kernel
theorem dX3_workOut_35 : decode cX3_workOut 35 = .ok (.iload 4, 2) := by decide +kernel
theorem dX3_workOut_37 : decode cX3_workOut 37 = .ok (.invokevirtual 117, 3) := by decide +kernel
theorem dX3_workOut_40 : decode cX3_workOut 40 = .ok (.istore 5, 2) := by decide +kernel
theorem dX3_workOut_42 : decode cX3_workOut 42 = .ok (.iload 5, 2) := by decide +kernel
theorem dX3_workOut_44 : decode cX3_workOut 44 = .ok (.iconst (-1), 1) := by decide +kernel
theorem dX3_workOut_45 : decode cX3_workOut 45 = .ok (.if_icmp .ne 13, 3) := by decide +kernel
theorem dX3_workOut_48 : decode cX3_workOut 48 = .ok (.aload_n 0, 1) := by decide +kernel
theorem dX3_workOut_49 : decode cX3_workOut 49 = .ok (.aload_n 1, 1) := by decide +kernel
theorem dX3_workOut_50 : decode cX3_workOut 50 = .ok (.ldc 121, 2) := by decide +kernel
theorem dX3_workOut_52 : decode cX3_workOut 52 = .ok (.iconst (-1), 1) := by decide +kernel
theorem dX3_workOut_53 : decode cX3_workOut 53 = .ok (.invokevirtual 122, 3) := by decide +kernel
theorem dX3_workOut_56 : decode cX3_workOut 56 = .ok (.iconst 1, 1) := by decide +kernel
theorem dX3_workOut_57 : decode cX3_workOut 57 = .ok (.ireturn, 1) := by decide +kernel
theorem dX3_workOut_58 : decode cX3_workOut 58 = .ok (.aload_n 0, 1) := by decide +kernel
theorem dX3_workOut_59 : decode cX3_workOut 59 = .ok (.iload 5, 2) := by decide +kernel
theorem dX3_workOut_61 : decode cX3_workOut 61 = .ok (.iload_n 2, 1) := by decide +kernel
theorem dX3_workOut_62 : decode cX3_workOut 62 = .ok (.invokevirtual 84, 3) := by decide +kernel
theorem dX3_workOut_65 : decode cX3_workOut 65 = .ok (.iconst (-1), 1) := by decide +kernel
theorem dX3_workOut_66 : decode cX3_workOut 66 = .ok (.if_icmp .ne 5, 3) := by decide +kernel
theorem dX3_workOut_69 : decode cX3_workOut 69 = .ok (.iconst 0, 1) := by decide +kernel
theorem dX3_workOut_70 : decode cX3_workOut 70 = .ok (.ireturn, 1) := by decide +kernel
theorem dX3_workOut_71 : decode cX3_workOut 71 = .ok (.aload_n 0, 1) := by decide +kernel
theorem dX3_workOut_72 : decode cX3_workOut 72 = .ok (.aload_n 1, 1) := by decide +kernel
theorem dX3_workOut_73 : decode cX3_workOut 73 = .ok (.aload_n 3, 1) := by decide +kernel
theorem dX3_workOut_74 : decode cX3_workOut 74 = .ok (.iload 4, 2) := by decide +kernel
theorem dX3_workOut_76 : decode cX3_workOut 76 = .ok (.aload_n 0, 1) := by decide +kernel
theorem dX3_workOut_77 : decode cX3_workOut 77 = .ok (.getfield 11, 3) := by decide +kernel
theorem dX3_workOut_80 : decode cX3_workOut 80 = .ok (.iload 5, 2) := by decide +kernel
theorem dX3_workOut_82 : decode cX3_workOut 82 = .ok (.aaload, 1) := by decide +kernel
theorem dX3_workOut_83 : decode cX3_workOut 83 = .ok (.invokevirtual 114, 3) := by decide +kernel
theorem dX3_workOut_86 : decode cX3_workOut 86 = .ok (.invokevirtual 126, 3) := by decide +kernel
theorem dX3_workOut_89 : decode cX3_workOut 89 = .ok (.iload 5, 2) := by decide +kernel
theorem dX3_workOut_91 : decode cX3_workOut 91 = .ok (.invokevirtual 122, 3) := by decide +kernel
theorem dX3_workOut_94 : decode cX3_workOut 94 = .ok (.iconst 1, 1) := by decide +kernel
theorem dX3_workOut_95 : decode cX3_workOut 95 = .ok (.ireturn, 1) := by decide +kernel
theorem dX3_remember_0 : decode cX3_remember 0 = .ok (.aload_n 0, 1) := by decide +kernel
theorem dX3_remember_1 : decode cX3_remember 1 = .ok (.dup, 1) := by decide +kernel
theorem dX3_remember_2 : decode cX3_remember 2 = .ok (.getfield 29, 3) := by decide +kernel
theorem dX3_remember_5 : decode cX3_remember 5 = .ok (.iconst 1, 1) := by decide +kernel
theorem dX3_remember_6 : decode cX3_remember 6 = .ok (.iadd, 1) := by decide +kernel
theorem dX3_remember_7 : decode cX3_remember 7 = .ok (.putfield 29, 3) := by decide +kernel
theorem dX3_remember_10 : decode cX3_remember 10 = .ok (.aload_n 1, 1) := by decide +kernel
theorem dX3_remember_11 : decode cX3_remember 11 = .ok (.getfield 66, 3) := by decide +kernel
theorem dX3_remember_14 : decode cX3_remember 14 = .ok (.ifCond .eq 24, 3) := by decide +kernel
theorem dX3_remember_17 : decode cX3_remember 17 = .ok (.aload_n 1, 1) := by decide +kernel
theorem dX3_remember_18 : decode cX3_remember 18 = .ok (.getfield 129, 3) := by decide +kernel
theorem dX3_remember_21 : decode cX3_remember 21 = .ok (.iload_n 2, 1) := by decide +kernel
theorem dX3_remember_22 : decode cX3_remember 22 = .ok (.if_icmp .ne 16, 3) := by decide +kernel
theorem dX3_remember_25 : decode cX3_remember 25 = .ok (.aload_n 0, 1) := by decide +kernel
theorem dX3_remember_26 : decode cX3_remember 26 = .ok (.dup, 1) := by decide +kernel
theorem dX3_remember_27 : decode cX3_remember 27 = .ok (.getfield 41, 3) := by decide +kernel
theorem dX3_remember_30 : decode cX3_remember 30 = .ok (.iconst 1, 1) := by decide +kernel
theorem dX3_remember_31 : decode cX3_remember 31 = .ok (.iadd, 1) := by decide +kernel
theorem dX3_remember_32 : decode cX3_remember 32 = .ok (.putfield 41, 3) := by decide +kernel
theorem dX3_remember_35 : decode cX3_remember 35 = .ok (.goto 11, 3) := by decide +kernel
theorem dX3_remember_38 : decode cX3_remember 38 = .ok (.aload_n 1, 1) := by decide +kernel
theorem dX3_remember_39 : decode cX3_remember 39 = .ok (.aload_n 0, 1) := by decide +kernel
theorem dX3_remember_40 : decode cX3_remember 40 = .ok (.getfield 26, 3) := by decide +kernel
theorem dX3_remember_43 : decode cX3_remember 43 = .ok (.putfield 63, 3) := by decide +kernel
theorem dX3_remember_46 : decode cX3_remember 46 = .ok (.aload_n 1, 1) := by decide +kernel
theorem dX3_remember_47 : decode cX3_remember 47 = .ok (.iconst 1, 1) := by decide +kernel
theorem dX3_remember_48 : decode cX3_remember 48 = .ok (.putfield 66, 3) := by decide +kernel
theorem dX3_remember_51 : decode cX3_remember 51 = .ok (.aload_n 1, 1) := by decide +kernel
theorem dX3_remember_52 : decode cX3_remember 52 = .ok (.iload_n 2, 1) := by decide +kernel
theorem dX3_remember_53 : decode cX3_remember 53 = .ok (.putfield 129, 3) := by decide +kernel
theorem dX3_remember_56 : decode cX3_remember 56 = .ok (.aload_n 1, 1) := by decide +kernel
theorem dX3_remember_57 : decode cX3_remember 57 = .ok (.iload_n 3, 1) := by decide +kernel
theorem dX3_remember_58 : decode cX3_remember 58 = .ok (.putfield 111, 3) := by decide +kernel
theorem dX3_remember_61 : decode cX3_remember 61 = .ok (.aload_n 1, 1) := by decide +kernel
theorem dX3_remember_62 : decode cX3_remember 62 = .ok (.aload_n 0, 1) := by decide +kernel
theorem dX3_remember_63 : decode cX3_remember 63 = .ok (.getfield 26, 3) := by decide +kernel
theorem dX3_remember_66 : decode cX3_remember 66 = .ok (.putfield 94, 3) := by decide +kernel
theorem dX3_remember_69 : decode cX3_remember 69 = .ok (.return_, 1) := by decide +kernel
theorem dX4_init_0 : decode cX4_init 0 = .ok (.aload_n 0, 1) := by decide +kernel
theorem dX4_init_1 : decode cX4_init 1 = .ok (.invokespecial 3, 3) := by decide +kernel
theorem dX4_init_4 : decode cX4_init 4 = .ok (.aload_n 0, 1) := by decide +kernel
theorem dX4_init_5 : decode cX4_init 5 = .ok (.bipush 60, 2) := by decide +kernel
theorem dX4_init_7 : decode cX4_init 7 = .ok (.newarray .char, 2) := by decide +kernel
theorem dX4_init_9 : decode cX4_init 9 = .ok (.putfield 9, 3) := by decide +kernel
theorem dX4_init_12 : decode cX4_init 12 = .ok (.aload_n 0, 1) := by decide +kernel
theorem dX4_init_13 : decode cX4_init 13 = .ok (.new 15, 3) := by decide +kernel
theorem dX4_init_16 : decode cX4_init 16 = .ok (.dup, 1) := by decide +kernel
theorem dX4_init_17 : decode cX4_init 17 = .ok (.invokespecial 17, 3) := by decide +kernel
theorem dX4_init_20 : decode cX4_init 20 = .ok (.putfield 18, 3) := by decide +kernel
theorem dX4_init_23 : decode cX4_init 23 = .ok (.return_, 1) := by decide +kernel
theorem dX4_append_0 : decode cX4_append 0 = .ok (.aload_n 0, 1) := by decide +kernel
theorem dX4_append_1 : decode cX4_append 1 = .ok (.getfield 22, 3) := by decide +kernel
theorem dX4_append_4 : decode cX4_append 4 = .ok (.bipush 60, 2) := by decide +kernel
theorem dX4_append_6 : decode cX4_append 6 = .ok (.if_icmp .ge 23, 3) := by decide +kernel
theorem dX4_append_9 : decode cX4_append 9 = .ok (.aload_n 0, 1) := by decide +kernel
theorem dX4_append_10 : decode cX4_append 10 = .ok (.getfield 9, 3) := by decide +kernel
theorem dX4_append_13 : decode cX4_append 13 = .ok (.aload_n 0, 1) := by decide +kernel
theorem dX4_append_14 : decode cX4_append 14 = .ok (.getfield 22, 3) := by decide +kernel
theorem dX4_append_17 : decode cX4_append 17 = .ok (.iload_n 1, 1) := by decide +kernel
theorem dX4_append_18 : decode cX4_append 18 = .ok (.castore, 1) := by decide +kernel
theorem dX4_append_19 : decode cX4_append 19 = .ok (.aload_n 0, 1) := by decide +kernel
theorem dX4_append_20 : decode cX4_append 20 = .ok (.dup, 1) := by decide +kernel
theorem dX4_append_21 : decode cX4_append 21 = .ok (.getfield 22, 3) := by decide +kernel
theorem dX4_append_24 : decode cX4_append 24 = .ok (.iconst 1, 1) := by decide +kernel
theorem dX4_append_25 : decode cX4_append 25 = .ok (.iadd, 1) := by decide +kernel
theorem dX4_append_26 : decode cX4_append 26 = .ok (.putfield 22, 3) := by decide +kernel
theorem dX4_append_29 : decode cX4_append 29 = .ok (.return_, 1) := by decide +kernel
theorem dX4_empty_0 : decode cX4_empty 0 = .ok (.aload_n 0, 1) := by decide +kernel
theorem dX4_empty_1 : decode cX4_empty 1 = .ok (.iconst 0, 1) := by decide +kernel
theorem dX4_empty_2 : decode cX4_empty 2 = .ok (.putfield 22, 3) := by decide +kernel
theorem dX4_empty_5 : decode cX4_empty 5 = .ok (.return_, 1) := by decide +kernel
theorem dX4_rewind_0 : decode cX4_rewind 0 = .ok (.aload_n 0, 1) := by decide +kernel
theorem dX4_rewind_1 : decode cX4_rewind 1 = .ok (.iconst 0, 1) := by decide +kernel
theorem dX4_rewind_2 : decode cX4_rewind 2 = .ok (.putfield 26, 3) := by decide +kernel
theorem dX4_rewind_5 : decode cX4_rewind 5 = .ok (.return_, 1) := by decide +kernel
theorem dX4_hasMore_0 : decode cX4_hasMore 0 = .ok (.aload_n 0, 1) := by decide +kernel
theorem dX4_hasMore_1 : decode cX4_hasMore 1 = .ok (.getfield 26, 3) := by decide +kernel
theorem dX4_hasMore_4 : decode cX4_hasMore 4 = .ok (.aload_n 0, 1) := by decide +kernel
theorem dX4_hasMore_5 : decode cX4_hasMore 5 = .ok (.getfield 22, 3) := by decide +kernel
theorem dX4_hasMore_8 : decode cX4_hasMore 8 = .ok (.if_icmp .ge 7, 3) := by decide +kernel
theorem dX4_hasMore_11 : decode cX4_hasMore 11 = .ok (.iconst 1, 1) := by decide +kernel
theorem dX4_hasMore_12 : decode cX4_hasMore 12 = .ok (.goto 4, 3) := by decide +kernel
theorem dX4_hasMore_15 : decode cX4_hasMore 15 = .ok (.iconst 0, 1) := by decide +kernel
theorem dX4_hasMore_16 : decode cX4_hasMore 16 = .ok (.ireturn, 1) := by decide +kernel
theorem dX4_findFault_0 : decode cX4_findFault 0 = .ok (.aload_n 0, 1) := by decide +kernel
theorem dX4_findFault_1 : decode cX4_findFault 1 = .ok (.invokevirtual 29, 3) := by decide +kernel
theorem dX4_findFault_4 : decode cX4_findFault 4 = .ok (.iconst 0, 1) := by decide +kernel
theorem dX4_findFault_5 : decode cX4_findFault 5 = .ok (.istore_n 1, 1) := by decide +kernel
theorem dX4_findFault_6 : decode cX4_findFault 6 = .ok (.iload_n 1, 1) := by decide +kernel
theorem dX4_findFault_7 : decode cX4_findFault 7 = .ok (.bipush 60, 2) := by decide +kernel
theorem dX4_findFault_9 : decode cX4_findFault 9 = .ok (.if_icmp .ge 30, 3) := by decide +kernel
theorem dX4_findFault_12 : decode cX4_findFault 12 = .ok (.aload_n 0, 1) := by decide +kernel
theorem dX4_findFault_13 : decode cX4_findFault 13 = .ok (.invokevirtual 32, 3) := by decide +kernel
theorem dX4_findFault_16 : decode cX4_findFault 16 = .ok (.ifCond .eq 23, 3) := by decide +kernel
theorem dX4_findFault_19 : decode cX4_findFault 19 = .ok (.aload_n 0, 1) := by decide +kernel
theorem dX4_findFault_20 : decode cX4_findFault 20 = .ok (.getfield 26, 3) := by decide +kernel
theorem dX4_findFault_23 : decode cX4_findFault 23 = .ok (.istore_n 2, 1) := by decide +kernel
theorem dX4_findFault_24 : decode cX4_findFault 24 = .ok (.aload_n 0, 1) := by decide +kernel
theorem dX4_findFault_25 : decode cX4_findFault 25 = .ok (.invokevirtual 36, 3) := by decide +kernel
theorem dX4_findFault_28 : decode cX4_findFault 28 = .ok (.ifCond .ne 5, 3) := by decide +kernel
theorem dX4_findFault_31 : decode cX4_findFault 31 = .ok (.iload_n 2, 1) := by decide +kernel
theorem dX4_findFault_32 : decode cX4_findFault 32 = .ok (.ireturn, 1) := by decide +kernel
theorem dX4_findFault_33 : decode cX4_findFault 33 = .ok (.iinc 1 1, 3) := by decide +kernel
theorem dX4_findFault_36 : decode cX4_findFault 36 = .ok (.goto (-30), 3) := by decide +kernel
theorem dX4_findFault_39 : decode cX4_findFault 39 = .ok (.iconst (-1), 1) := by decide +kernel
theorem dX4_findFault_40 : decode cX4_findFault 40 = .ok (.ireturn, 1) := by decide +kernel
theorem dX4_readDefinition_0 : decode cX4_readDefinition 0 = .ok (.aload_n 0, 1) := by decide +kernel
theorem dX4_readDefinition_1 : decode cX4_readDefinition 1 = .ok (.aload_n 0, 1) := by decide +kernel
theorem dX4_readDefinition_2 : decode cX4_readDefinition 2 = .ok (.invokevirtual 39, 3) := by decide +kernel
theorem dX4_readDefinition_5 : decode cX4_readDefinition 5 = .ok (.putfield 43, 3) := by decide +kernel
theorem dX4_readDefinition_8 : decode cX4_readDefinition 8 = .ok (.aload_n 0, 1) := by decide +kernel
theorem dX4_readDefinition_9 : decode cX4_readDefinition 9 = .ok (.getfield 43, 3) := by decide +kernel
theorem dX4_readDefinition_12 : decode cX4_readDefinition 12 = .ok (.iconst (-1), 1) := by decide +kernel
theorem dX4_readDefinition_13 : decode cX4_readDefinition 13 = .ok (.if_icmp .eq 12, 3) := by decide +kernel
theorem dX4_readDefinition_16 : decode cX4_readDefinition 16 = .ok (.aload_n 0, 1) := by decide +kernel
theorem dX4_readDefinition_17 : decode cX4_readDefinition 17 = .ok (.bipush 61, 2) := by decide +kernel
theorem dX4_readDefinition_19 : decode cX4_readDefinition 19 = .ok (.invokevirtual 46, 3) := by decide +kernel
theorem dX4_readDefinition_22 : decode cX4_readDefinition 22 = .ok (.ifCond .ne 5, 3) := by decide +kernel
theorem dX4_readDefinition_25 : decode cX4_readDefinition 25 = .ok (.iconst 0, 1) := by decide +kernel
theorem dX4_readDefinition_26 : decode cX4_readDefinition 26 = .ok (.ireturn, 1) := by decide +kernel
theorem dX4_readDefinition_27 : decode cX4_readDefinition 27 = .ok (.aload_n 0, 1) := by decide +kernel
theorem dX4_readDefinition_28 : decode cX4_readDefinition 28 = .ok (.invokevirtual 39, 3) := by decide +kernel
theorem dX4_readDefinition_31 : decode cX4_readDefinition 31 = .ok (.istore_n 1, 1) := by decide +kernel
theorem dX4_readDefinition_32 : decode cX4_readDefinition 32 = .ok (.iload_n 1, 1) := by decide +kernel
theorem dX4_readDefinition_33 : decode cX4_readDefinition 33 = .ok (.iconst (-1), 1) := by decide +kernel
theorem dX4_readDefinition_34 : decode cX4_readDefinition 34 = .ok (.if_icmp .ne 10, 3) := by decide +kernel
theorem dX4_readDefinition_37 : decode cX4_readDefinition 37 = .ok (.aload_n 0, 1) := by decide +kernel
theorem dX4_readDefinition_38 : decode cX4_readDefinition 38 = .ok (.invokevirtual 50, 3) := by decide +kernel
theorem dX4_readDefinition_41 : decode cX4_readDefinition 41 = .ok (.goto 8, 3) := by decide +kernel
theorem dX4_readDefinition_44 : decode cX4_readDefinition 44 = .ok (.aload_n 0, 1) := by decide +kernel
theorem dX4_readDefinition_45 : decode cX4_readDefinition 45 = .ok (.iload_n 1, 1) := by decide +kernel
theorem dX4_readDefinition_46 : decode cX4_readDefinition 46 = .ok (.invokevirtual 53, 3) := by decide +kernel
theorem dX4_readDefinition_49 : decode cX4_readDefinition 49 = .ok (.istore_n 2, 1) := by decide +kernel
theorem dX4_readDefinition_50 : decode cX4_readDefinition 50 = .ok (.iload_n 2, 1) := by decide +kernel
theorem dX4_readDefinition_51 : decode cX4_readDefinition 51 = .ok (.ifCond .eq 16, 3) := by decide +kernel
theorem dX4_readDefinition_54 : decode cX4_readDefinition 54 = .ok (.aload_n 0, 1) := by decide +kernel
theorem dX4_readDefinition_55 : decode cX4_readDefinition 55 = .ok (.bipush 59, 2) := by decide +kernel
theorem dX4_readDefinition_57 : decode cX4_readDefinition 57 = .ok (.invokevirtual 46, 3) := by decide +kernel
theorem dX4_readDefinition_60 : decode cX4_readDefinition 60 = .ok (.ifCond .eq 7, 3) := by decide +kernel
theorem dX4_readDefinition_63 : decode cX4_readDefinition 63 = .ok (.iconst 1, 1) := by decide +kernel
theorem dX4_readDefinition_64 : decode cX4_readDefinition 64 = .ok (.goto 4, 3) := by decide +kernel
theorem dX4_readDefinition_67 : decode cX4_readDefinition 67 = .ok (.iconst 0, 1) := by decide +kernel
theorem dX4_readDefinition_68 : decode cX4_readDefinition 68 = .ok (.ireturn, 1) := by decide +kernel
theorem dX4_readFormula_0 : decode cX4_readFormula 0 = .ok (.aload_n 0, 1) := by decide +kernel
theorem dX4_readFormula_1 : decode cX4_readFormula 1 = .ok (.invokevirtual 57, 3) := by decide +kernel
theorem dX4_readFormula_4 : decode cX4_readFormula 4 = .ok (.istore_n 2, 1) := by decide +kernel
theorem dX4_readFormula_5 : decode cX4_readFormula 5 = .ok (.iload_n 2, 1) := by decide +kernel
theorem dX4_readFormula_6 : decode cX4_readFormula 6 = .ok (.iconst (-1), 1) := by decide +kernel
theorem dX4_readFormula_7 : decode cX4_readFormula 7 = .ok (.if_icmp .ne 5, 3) := by decide +kernel
theorem dX4_readFormula_10 : decode cX4_readFormula 10 = .ok (.iconst 0, 1) := by decide +kernel
theorem dX4_readFormula_11 : decode cX4_readFormula 11 = .ok (.ireturn, 1) := by decide +kernel
theorem dX4_readFormula_12 : decode cX4_readFormula 12 = .ok (.aload_n 0, 1) := by decide +kernel
theorem dX4_readFormula_13 : decode cX4_readFormula 13 = .ok (.invokevirtual 39, 3) := by decide +kernel
theorem dX4_readFormula_16 : decode cX4_readFormula 16 = .ok (.istore_n 3, 1) := by decide +kernel
theorem dX4_readFormula_17 : decode cX4_readFormula 17 = .ok (.iload_n 3, 1) := by decide +kernel
theorem dX4_readFormula_18 : decode cX4_readFormula 18 = .ok (.iconst (-1), 1) := by decide +kernel
theorem dX4_readFormula_19 : decode cX4_readFormula 19 = .ok (.if_icmp .ne 5, 3) := by decide +kernel
theorem dX4_readFormula_22 : decode cX4_readFormula 22 = .ok (.iconst 0, 1) := by decide +kernel
theorem dX4_readFormula_23 : decode cX4_readFormula 23 = .ok (.ireturn, 1) := by decide +kernel
theorem dX4_readFormula_24 : decode cX4_readFormula 24 = .ok (.iconst 0, 1) := by decide +kernel
theorem dX4_readFormula_25 : decode cX4_readFormula 25 = .ok (.istore 4, 2) := by decide +kernel
theorem dX4_readFormula_27 : decode cX4_readFormula 27 = .ok (.iload_n 2, 1) := by decide +kernel
theorem dX4_readFormula_28 : decode cX4_readFormula 28 = .ok (.iconst 4, 1) := by decide +kernel
theorem dX4_readFormula_29 : decode cX4_readFormula 29 = .ok (.if_icmp .ne 22, 3) := by decide +kernel
theorem dX4_readFormula_32 : decode cX4_readFormula 32 = .ok (.aload_n 0, 1) := by decide +kernel
theorem dX4_readFormula_33 : decode cX4_readFormula 33 = .ok (.bipush 58, 2) := by decide +kernel
theorem dX4_readFormula_35 : decode cX4_readFormula 35 = .ok (.invokevirtual 46, 3) := by decide +kernel
theorem dX4_readFormula_38 : decode cX4_readFormula 38 = .ok (.ifCond .eq 10, 3) := by decide +kernel
theorem dX4_readFormula_41 : decode cX4_readFormula 41 = .ok (.aload_n 0, 1) := by decide +kernel
theorem dX4_readFormula_42 : decode cX4_readFormula 42 = .ok (.invokevirtual 39, 3) := by decide +kernel
theorem dX4_readFormula_45 : decode cX4_readFormula 45 = .ok (.goto 4, 3) := by decide +kernel
theorem dX4_readFormula_48 : decode cX4_readFormula 48 = .ok (.iconst (-1), 1) := by decide +kernel
theorem dX4_readFormula_49 : decode cX4_readFormula 49 = .ok (.istore 4, 2) := by decide +kernel
theorem dX4_readFormula_51 : decode cX4_readFormula 51 = .ok (.iload 4, 2) := by decide +kernel
theorem dX4_readFormula_53 : decode cX4_readFormula 53 = .ok (.iconst (-1), 1) := by decide +kernel
theorem dX4_readFormula_54 : decode cX4_readFormula 54 = .ok (.if_icmp .ne 5, 3) := by decide +kernel
theorem dX4_readFormula_57 : decode cX4_readFormula 57 = .ok (.iconst 0, 1) := by decide +kernel
theorem dX4_readFormula_58 : decode cX4_readFormula 58 = .ok (.ireturn, 1) := by decide +kernel
theorem dX4_readFormula_59 : decode cX4_readFormula 59 = .ok (.aload_n 0, 1) := by decide +kernel
theorem dX4_readFormula_60 : decode cX4_readFormula 60 = .ok (.getfield 18, 3) := by decide +kernel
theorem dX4_readFormula_63 : decode cX4_readFormula 63 = .ok (.iload_n 2, 1) := by decide +kernel
theorem dX4_readFormula_64 : decode cX4_readFormula 64 = .ok (.iload_n 1, 1) := by decide +kernel
theorem dX4_readFormula_65 : decode cX4_readFormula 65 = .ok (.iload_n 3, 1) := by decide +kernel
theorem dX4_readFormula_66 : decode cX4_readFormula 66 = .ok (.iload 4, 2) := by decide +kernel
theorem dX4_readFormula_68 : decode cX4_readFormula 68 = .ok (.invokevirtual 60, 3) := by decide +kernel
theorem dX4_readFormula_71 : decode cX4_readFormula 71 = .ok (.iconst 1, 1) := by decide +kernel
theorem dX4_readFormula_72 : decode cX4_readFormula 72 = .ok (.ireturn, 1) := by decide +kernel
theorem dX4_readNumber_0 : decode cX4_readNumber 0 = .ok (.aload_n 0, 1) := by decide +kernel
theorem dX4_readNumber_1 : decode cX4_readNumber 1 = .ok (.bipush 45, 2) := by decide +kernel
theorem dX4_readNumber_3 : decode cX4_readNumber 3 = .ok (.invokevirtual 46, 3) := by decide +kernel
theorem dX4_readNumber_6 : decode cX4_readNumber 6 = .ok (.istore_n 1, 1) := by decide +kernel
theorem dX4_readNumber_7 : decode cX4_readNumber 7 = .ok (.iconst 0, 1) := by decide +kernel
theorem dX4_readNumber_8 : decode cX4_readNumber 8 = .ok (.istore_n 2, 1) := by decide +kernel
theorem dX4_readNumber_9 : decode cX4_readNumber 9 = .ok (.iconst 0, 1) := by decide +kernel
theorem dX4_readNumber_10 : decode cX4_readNumber 10 = .ok (.istore_n 3, 1) := by decide +kernel
theorem dX4_readNumber_11 : decode cX4_readNumber 11 = .ok (.iload_n 3, 1) := by decide +kernel
theorem dX4_readNumber_12 : decode cX4_readNumber 12 = .ok (.iconst 5, 1) := by decide +kernel
theorem dX4_readNumber_13 : decode cX4_readNumber 13 = .ok (.if_icmp .ge 46, 3) := by decide +kernel
theorem dX4_readNumber_16 : decode cX4_readNumber 16 = .ok (.aload_n 0, 1) := by decide +kernel
theorem dX4_readNumber_17 : decode cX4_readNumber 17 = .ok (.invokevirtual 64, 3) := by decide +kernel
theorem dX4_readNumber_20 : decode cX4_readNumber 20 = .ok (.bipush 48, 2) := by decide +kernel
theorem dX4_readNumber_22 : decode cX4_readNumber 22 = .ok (.bipush 57, 2) := by decide +kernel
theorem dX4_readNumber_24 : decode cX4_readNumber 24 = .ok (.invokestatic 67, 3) := by decide +kernel
theorem dX4_readNumber_27 : decode cX4_readNumber 27 = .ok (.ifCond .eq 32, 3) := by decide +kernel
theorem dX4_readNumber_30 : decode cX4_readNumber 30 = .ok (.iload_n 2, 1) := by decide +kernel
theorem dX4_readNumber_31 : decode cX4_readNumber 31 = .ok (.bipush 10, 2) := by decide +kernel
theorem dX4_readNumber_33 : decode cX4_readNumber 33 = .ok (.imul, 1) := by decide +kernel
theorem dX4_readNumber_34 : decode cX4_readNumber 34 = .ok (.aload_n 0, 1) := by decide +kernel
theorem dX4_readNumber_35 : decode cX4_readNumber 35 = .ok (.invokevirtual 64, 3) := by decide +kernel
theorem dX4_readNumber_38 : decode cX4_readNumber 38 = .ok (.iadd, 1) := by decide +kernel
theorem dX4_readNumber_39 : decode cX4_readNumber 39 = .ok (.bipush 48, 2) := by decide +kernel
theorem dX4_readNumber_41 : decode cX4_readNumber 41 = .ok (.isub, 1) := by decide +kernel
theorem dX4_readNumber_42 : decode cX4_readNumber 42 = .ok (.istore_n 2, 1) := by decide +kernel
theorem dX4_readNumber_43 : decode cX4_readNumber 43 = .ok (.aload_n 0, 1) := by decide +kernel
theorem dX4_readNumber_44 : decode cX4_readNumber 44 = .ok (.dup, 1) := by decide +kernel
theorem dX4_readNumber_45 : decode cX4_readNumber 45 = .ok (.getfield 26, 3) := by decide +kernel
theorem dX4_readNumber_48 : decode cX4_readNumber 48 = .ok (.iconst 1, 1) := by decide +kernel
theorem dX4_readNumber_49 : decode cX4_readNumber 49 = .ok (.iadd, 1) := by decide +kernel
theorem dX4_readNumber_50 : decode cX4_readNumber 50 = .ok (.putfield 26, 3) := by decide +kernel
theorem dX4_readNumber_53 : decode cX4_readNumber 53 = .ok (.iinc 3 1, 3) := by decide +kernel
theorem dX4_readNumber_56 : decode cX4_readNumber 56 = .ok (.goto (-45), 3) := by decide +kernel
theorem dX4_readNumber_59 : decode cX4_readNumber 59 = .ok (.aload_n 0, 1) := by decide +kernel
theorem dX4_readNumber_60 : decode cX4_readNumber 60 = .ok (.getfield 18, 3) := by decide +kernel
theorem dX4_readNumber_63 : decode cX4_readNumber 63 = .ok (.iload_n 1, 1) := by decide +kernel
theorem dX4_readNumber_64 : decode cX4_readNumber 64 = .ok (.ifCond .eq 8, 3) := by decide +kernel
theorem dX4_readNumber_67 : decode cX4_readNumber 67 = .ok (.iload_n 2, 1) := by decide +kernel
theorem dX4_readNumber_68 : decode cX4_readNumber 68 = .ok (.ineg, 1) := by decide +kernel
theorem dX4_readNumber_69 : decode cX4_readNumber 69 = .ok (.goto 4, 3) := by decide +kernel
theorem dX4_readNumber_72 : decode cX4_readNumber 72 = .ok (.iload_n 2, 1) := by decide +kernel
theorem dX4_readNumber_73 : decode cX4_readNumber 73 = .ok (.invokevirtual 71, 3) := by decide +kernel
theorem dX4_readNumber_76 : decode cX4_readNumber 76 = .ok (.iload_n 3, 1) := by decide +kernel
theorem dX4_readNumber_77 : decode cX4_readNumber 77 = .ok (.ifCond .le 7, 3) := by decide +kernel
theorem dX4_readNumber_80 : decode cX4_readNumber 80 = .ok (.iconst 1, 1) := by decide +kernel
theorem dX4_readNumber_81 : decode cX4_readNumber 81 = .ok (.goto 4, 3) := by decide +kernel
theorem dX4_readNumber_84 : decode cX4_readNumber 84 = .ok (.iconst 0, 1) := by decide +kernel
theorem dX4_readNumber_85 : decode cX4_readNumber 85 = .ok (.ireturn, 1) := by decide +kernel
theorem dX4_readOperator_0 : decode cX4_readOperator 0 = .ok (.aload_n 0, 1) := by decide +kernel
theorem dX4_readOperator_1 : decode cX4_readOperator 1 = .ok (.invokevirtual 64, 3) := by decide +kernel
theorem dX4_readOperator_4 : decode cX4_readOperator 4 = .ok (.invokestatic 75, 3) := by decide +kernel
theorem dX4_readOperator_7 : decode cX4_readOperator 7 = .ok (.istore_n 1, 1) := by decide +kernel
theorem dX4_readOperator_8 : decode cX4_readOperator 8 = .ok (.iload_n 1, 1) := by decide +kernel
theorem dX4_readOperator_9 : decode cX4_readOperator 9 = .ok (.iconst (-1), 1) := by decide +kernel
theorem dX4_readOperator_10 : decode cX4_readOperator 10 = .ok (.if_icmp .eq 13, 3) := by decide +kernel
theorem dX4_readOperator_13 : decode cX4_readOperator 13 = .ok (.aload_n 0, 1) := by decide +kernel
theorem dX4_readOperator_14 : decode cX4_readOperator 14 = .ok (.dup, 1) := by decide +kernel
theorem dX4_readOperator_15 : decode cX4_readOperator 15 = .ok (.getfield 26, 3) := by decide +kernel
theorem dX4_readOperator_18 : decode cX4_readOperator 18 = .ok (.iconst 1, 1) := by decide +kernel
theorem dX4_readOperator_19 : decode cX4_readOperator 19 = .ok (.iadd, 1) := by decide +kernel
theorem dX4_readOperator_20 : decode cX4_readOperator 20 = .ok (.putfield 26, 3) := by decide +kernel
theorem dX4_readOperator_23 : decode cX4_readOperator 23 = .ok (.iload_n 1, 1) := by decide +kernel
theorem dX4_readOperator_24 : decode cX4_readOperator 24 = .ok (.ireturn, 1) := by decide +kernel
theorem dX4_kindOf_0 : decode cX4_kindOf 0 = .ok (.iload_n 0, 1) := by decide +kernel
theorem dX4_kindOf_1 : decode cX4_kindOf 1 = .ok (.lookupswitch 61 #[(42, 55), (43, 51), (45, 53), (63, 59), (94, 57)], 51) := by decide +kernel
theorem dX4_kindOf_52 : decode cX4_kindOf 52 = .ok (.iconst 0, 1) := by decide +kernel
theorem dX4_kindOf_53 : decode cX4_kindOf 53 = .ok (.ireturn, 1) := by decide +kernel
theorem dX4_kindOf_54 : decode cX4_kindOf 54 = .ok (.iconst 1, 1) := by decide +kernel
theorem dX4_kindOf_55 : decode cX4_kindOf 55 = .ok (.ireturn, 1) := by decide +kernel
theorem dX4_kindOf_56 : decode cX4_kindOf 56 = .ok (.iconst 2, 1) := by decide +kernel
theorem dX4_kindOf_57 : decode cX4_kindOf 57 = .ok (.ireturn, 1) := by decide +kernel
theorem dX4_kindOf_58 : decode cX4_kindOf 58 = .ok (.iconst 3, 1) := by decide +kernel
theorem dX4_kindOf_59 : decode cX4_kindOf 59 = .ok (.ireturn, 1) := by decide +kernel
theorem dX4_kindOf_60 : decode cX4_kindOf 60 = .ok (.iconst 4, 1) := by decide +kernel
theorem dX4_kindOf_61 : decode cX4_kindOf 61 = .ok (.ireturn, 1) := by decide +kernel
theorem dX4_kindOf_62 : decode cX4_kindOf 62 = .ok (.iconst (-1), 1) := by decide +kernel
theorem dX4_kindOf_63 : decode cX4_kindOf 63 = .ok (.ireturn, 1) := by decide +kernel
theorem dX4_readLetter_0 : decode cX4_readLetter 0 = .ok (.aload_n 0, 1) := by decide +kernel
theorem dX4_readLetter_1 : decode cX4_readLetter 1 = .ok (.invokevirtual 64, 3) := by decide +kernel
theorem dX4_readLetter_4 : decode cX4_readLetter 4 = .ok (.bipush 97, 2) := by decide +kernel
theorem dX4_readLetter_6 : decode cX4_readLetter 6 = .ok (.isub, 1) := by decide +kernel
theorem dX4_readLetter_7 : decode cX4_readLetter 7 = .ok (.istore_n 1, 1) := by decide +kernel
theorem dX4_readLetter_8 : decode cX4_readLetter 8 = .ok (.iload_n 1, 1) := by decide +kernel
theorem dX4_readLetter_9 : decode cX4_readLetter 9 = .ok (.invokestatic 79, 3) := by decide +kernel
theorem dX4_readLetter_12 : decode cX4_readLetter 12 = .ok (.ifCond .ne 5, 3) := by decide +kernel
theorem dX4_readLetter_15 : decode cX4_readLetter 15 = .ok (.iconst (-1), 1) := by decide +kernel
theorem dX4_readLetter_16 : decode cX4_readLetter 16 = .ok (.ireturn, 1) := by decide +kernel
theorem dX4_readLetter_17 : decode cX4_readLetter 17 = .ok (.aload_n 0, 1) := by decide +kernel
theorem dX4_readLetter_18 : decode cX4_readLetter 18 = .ok (.dup, 1) := by decide +kernel
theorem dX4_readLetter_19 : decode cX4_readLetter 19 = .ok (.getfield 26, 3) := by decide +kernel
theorem dX4_readLetter_22 : decode cX4_readLetter 22 = .ok (.iconst 1, 1) := by decide +kernel
theorem dX4_readLetter_23 : decode cX4_readLetter 23 = .ok (.iadd, 1) := by decide +kernel
theorem dX4_readLetter_24 : decode cX4_readLetter 24 = .ok (.putfield 26, 3) := by decide +kernel
theorem dX4_readLetter_27 : decode cX4_readLetter 27 = .ok (.iload_n 1, 1) := by decide +kernel
theorem dX4_readLetter_28 : decode cX4_readLetter 28 = .ok (.ireturn, 1) := by decide +kernel
theorem dX4_readSign_0 : decode cX4_readSign 0 = .ok (.aload_n 0, 1) := by decide +kernel
theorem dX4_readSign_1 : decode cX4_readSign 1 = .ok (.invokevirtual 64, 3) := by decide +kernel
theorem dX4_readSign_4 : decode cX4_readSign 4 = .ok (.iload_n 1, 1) := by decide +kernel
theorem dX4_readSign_5 : decode cX4_readSign 5 = .ok (.if_icmp .eq 5, 3) := by decide +kernel
theorem dX4_readSign_8 : decode cX4_readSign 8 = .ok (.iconst 0, 1) := by decide +kernel
theorem dX4_readSign_9 : decode cX4_readSign 9 = .ok (.ireturn, 1) := by decide +kernel
theorem dX4_readSign_10 : decode cX4_readSign 10 = .ok (.aload_n 0, 1) := by decide +kernel
theorem dX4_readSign_11 : decode cX4_readSign 11 = .ok (.dup, 1) := by decide +kernel
theorem dX4_readSign_12 : decode cX4_readSign 12 = .ok (.getfield 26, 3) := by decide +kernel
theorem dX4_readSign_15 : decode cX4_readSign 15 = .ok (.iconst 1, 1) := by decide +kernel
theorem dX4_readSign_16 : decode cX4_readSign 16 = .ok (.iadd, 1) := by decide +kernel
theorem dX4_readSign_17 : decode cX4_readSign 17 = .ok (.putfield 26, 3) := by decide +kernel
theorem dX4_readSign_20 : decode cX4_readSign 20 = .ok (.iconst 1, 1) := by decide +kernel
theorem dX4_readSign_21 : decode cX4_readSign 21 = .ok (.ireturn, 1) := by decide +kernel
theorem dX4_character_0 : decode cX4_character 0 = .ok (.aload_n 0, 1) := by decide +kernel
theorem dX4_character_1 : decode cX4_character 1 = .ok (.getfield 26, 3) := by decide +kernel
theorem dX4_character_4 : decode cX4_character 4 = .ok (.ifCond .lt 35, 3) := by decide +kernel
theorem dX4_character_7 : decode cX4_character 7 = .ok (.aload_n 0, 1) := by decide +kernel
theorem dX4_character_8 : decode cX4_character 8 = .ok (.getfield 26, 3) := by decide +kernel
theorem dX4_character_11 : decode cX4_character 11 = .ok (.aload_n 0, 1) := by decide +kernel
theorem dX4_character_12 : decode cX4_character 12 = .ok (.getfield 22, 3) := by decide +kernel
theorem dX4_character_15 : decode cX4_character 15 = .ok (.if_icmp .ge 24, 3) := by decide +kernel
theorem dX4_character_18 : decode cX4_character 18 = .ok (.aload_n 0, 1) := by decide +kernel
theorem dX4_character_19 : decode cX4_character 19 = .ok (.getfield 26, 3) := by decide +kernel
theorem dX4_character_22 : decode cX4_character 22 = .ok (.bipush 60, 2) := by decide +kernel
theorem dX4_character_24 : decode cX4_character 24 = .ok (.if_icmp .ge 15, 3) := by decide +kernel
theorem dX4_character_27 : decode cX4_character 27 = .ok (.aload_n 0, 1) := by decide +kernel
theorem dX4_character_28 : decode cX4_character 28 = .ok (.getfield 9, 3) := by decide +kernel
theorem dX4_character_31 : decode cX4_character 31 = .ok (.aload_n 0, 1) := by decide +kernel
theorem dX4_character_32 : decode cX4_character 32 = .ok (.getfield 26, 3) := by decide +kernel
theorem dX4_character_35 : decode cX4_character 35 = .ok (.caload, 1) := by decide +kernel
theorem dX4_character_36 : decode cX4_character 36 = .ok (.goto 4, 3) := by decide +kernel
theorem dX4_character_39 : decode cX4_character 39 = .ok (.iconst (-1), 1) := by decide +kernel
theorem dX4_character_40 : decode cX4_character 40 = .ok (.ireturn, 1) := by decide +kernel
theorem dJ9_max_7cf53_0 : decode cJ9_max_7cf53 0 = .ok (.iload_n 0, 1) := by decide +kernel
theorem dJ9_max_7cf53_1 : decode cJ9_max_7cf53 1 = .ok (.iload_n 1, 1) := by decide +kernel
theorem dJ9_max_7cf53_2 : decode cJ9_max_7cf53 2 = .ok (.if_icmp .lt 7, 3) := by decide +kernel
theorem dJ9_max_7cf53_5 : decode cJ9_max_7cf53 5 = .ok (.iload_n 0, 1) := by decide +kernel
theorem dJ9_max_7cf53_6 : decode cJ9_max_7cf53 6 = .ok (.goto 4, 3) := by decide +kernel
theorem dJ9_max_7cf53_9 : decode cJ9_max_7cf53 9 = .ok (.iload_n 1, 1) := by decide +kernel
theorem dJ9_max_7cf53_10 : decode cJ9_max_7cf53 10 = .ok (.ireturn, 1) := by decide +kernel
