theorem dX0_init_0 : decode cX0_init 0 = .ok (.aload_n 0, 1) := by decide +kernel
theorem dX0_init_1 : decode cX0_init 1 = .ok (.bipush 6, 2) := by decide +kernel
theorem dX0_init_3 : decode cX0_init 3 = .ok (.iload_n 1, 1) := by decide +kernel
theorem dX0_init_4 : decode cX0_init 4 = .ok (.aload_n 2, 1) := by decide +kernel
theorem dX0_init_5 : decode cX0_init 5 = .ok (.iload_n 3, 1) := by decide +kernel
theorem dX0_init_6 : decode cX0_init 6 = .ok (.iload 4, 2) := by decide +kernel
theorem dX0_init_8 : decode cX0_init 8 = .ok (.invokespecial 3, 3) := by decide +kernel
theorem dX0_init_11 : decode cX0_init 11 = .ok (.return_, 1) := by decide +kernel
theorem dX0_give_0 : decode cX0_give 0 = .ok (.bipush 70, 2) := by decide +kernel
theorem dX0_give_2 : decode cX0_give 2 = .ok (.aload_n 2, 1) := by decide +kernel
theorem dX0_give_3 : decode cX0_give 3 = .ok (.invokestatic 9, 3) := by decide +kernel
theorem dX0_give_6 : decode cX0_give 6 = .ok (.aload_n 0, 1) := by decide +kernel
theorem dX0_give_7 : decode cX0_give 7 = .ok (.iload_n 1, 1) := by decide +kernel
theorem dX0_give_8 : decode cX0_give 8 = .ok (.aload_n 2, 1) := by decide +kernel
theorem dX0_give_9 : decode cX0_give 9 = .ok (.invokespecial 15, 3) := by decide +kernel
theorem dX0_give_12 : decode cX0_give 12 = .ok (.iconst 5, 1) := by decide +kernel
theorem dX0_give_13 : decode cX0_give 13 = .ok (.ixor, 1) := by decide +kernel
theorem dX0_give_14 : decode cX0_give 14 = .ok (.ireturn, 1) := by decide +kernel
theorem dX0_fit_0 : decode cX0_fit 0 = .ok (.bipush 71, 2) := by decide +kernel
theorem dX0_fit_2 : decode cX0_fit 2 = .ok (.aload_n 2, 1) := by decide +kernel
theorem dX0_fit_3 : decode cX0_fit 3 = .ok (.invokestatic 9, 3) := by decide +kernel
theorem dX0_fit_6 : decode cX0_fit 6 = .ok (.aload_n 0, 1) := by decide +kernel
theorem dX0_fit_7 : decode cX0_fit 7 = .ok (.iload_n 1, 1) := by decide +kernel
theorem dX0_fit_8 : decode cX0_fit 8 = .ok (.aload_n 2, 1) := by decide +kernel
theorem dX0_fit_9 : decode cX0_fit 9 = .ok (.invokespecial 19, 3) := by decide +kernel
theorem dX0_fit_12 : decode cX0_fit 12 = .ok (.aload_n 0, 1) := by decide +kernel
theorem dX0_fit_13 : decode cX0_fit 13 = .ok (.iconst 0, 1) := by decide +kernel
theorem dX0_fit_14 : decode cX0_fit 14 = .ok (.aload_n 2, 1) := by decide +kernel
theorem dX0_fit_15 : decode cX0_fit 15 = .ok (.invokevirtual 22, 3) := by decide +kernel
theorem dX0_fit_18 : decode cX0_fit 18 = .ok (.iadd, 1) := by decide +kernel
theorem dX0_fit_19 : decode cX0_fit 19 = .ok (.ireturn, 1) := by decide +kernel
theorem dX1_init_0 : decode cX1_init 0 = .ok (.aload_n 0, 1) := by decide +kernel
theorem dX1_init_1 : decode cX1_init 1 = .ok (.invokespecial 3, 3) := by decide +kernel
theorem dX1_init_4 : decode cX1_init 4 = .ok (.aload_n 0, 1) := by decide +kernel
theorem dX1_init_5 : decode cX1_init 5 = .ok (.new 9, 3) := by decide +kernel
theorem dX1_init_8 : decode cX1_init 8 = .ok (.dup, 1) := by decide +kernel
theorem dX1_init_9 : decode cX1_init 9 = .ok (.invokespecial 11, 3) := by decide +kernel
theorem dX1_init_12 : decode cX1_init 12 = .ok (.putfield 12, 3) := by decide +kernel
theorem dX1_init_15 : decode cX1_init 15 = .ok (.aload_n 0, 1) := by decide +kernel
theorem dX1_init_16 : decode cX1_init 16 = .ok (.iconst 1, 1) := by decide +kernel
theorem dX1_init_17 : decode cX1_init 17 = .ok (.putfield 18, 3) := by decide +kernel
theorem dX1_init_20 : decode cX1_init 20 = .ok (.aload_n 0, 1) := by decide +kernel
theorem dX1_init_21 : decode cX1_init 21 = .ok (.sipush 256, 3) := by decide +kernel
theorem dX1_init_24 : decode cX1_init 24 = .ok (.newarray .int, 2) := by decide +kernel
theorem dX1_init_26 : decode cX1_init 26 = .ok (.putfield 22, 3) := by decide +kernel
theorem dX1_init_29 : decode cX1_init 29 = .ok (.aload_n 0, 1) := by decide +kernel
theorem dX1_init_30 : decode cX1_init 30 = .ok (.sipush 256, 3) := by decide +kernel
theorem dX1_init_33 : decode cX1_init 33 = .ok (.newarray .int, 2) := by decide +kernel
theorem dX1_init_35 : decode cX1_init 35 = .ok (.putfield 26, 3) := by decide +kernel
theorem dX1_init_38 : decode cX1_init 38 = .ok (.aload_n 0, 1) := by decide +kernel
theorem dX1_init_39 : decode cX1_init 39 = .ok (.sipush 2560, 3) := by decide +kernel
theorem dX1_init_42 : decode cX1_init 42 = .ok (.newarray .long, 2) := by decide +kernel
theorem dX1_init_44 : decode cX1_init 44 = .ok (.putfield 29, 3) := by decide +kernel
theorem dX1_init_47 : decode cX1_init 47 = .ok (.aload_n 0, 1) := by decide +kernel
theorem dX1_init_48 : decode cX1_init 48 = .ok (.sipush 256, 3) := by decide +kernel
theorem dX1_init_51 : decode cX1_init 51 = .ok (.newarray .long, 2) := by decide +kernel
theorem dX1_init_53 : decode cX1_init 53 = .ok (.putfield 33, 3) := by decide +kernel
theorem dX1_init_56 : decode cX1_init 56 = .ok (.aload_n 0, 1) := by decide +kernel
theorem dX1_init_57 : decode cX1_init 57 = .ok (.sipush 256, 3) := by decide +kernel
theorem dX1_init_60 : decode cX1_init 60 = .ok (.newarray .long, 2) := by decide +kernel
theorem dX1_init_62 : decode cX1_init 62 = .ok (.putfield 36, 3) := by decide +kernel
theorem dX1_init_65 : decode cX1_init 65 = .ok (.aload_n 0, 1) := by decide +kernel
theorem dX1_init_66 : decode cX1_init 66 = .ok (.iconst 0, 1) := by decide +kernel
theorem dX1_init_67 : decode cX1_init 67 = .ok (.putfield 39, 3) := by decide +kernel
theorem dX1_init_70 : decode cX1_init 70 = .ok (.aload_n 0, 1) := by decide +kernel
theorem dX1_init_71 : decode cX1_init 71 = .ok (.sipush 256, 3) := by decide +kernel
theorem dX1_init_74 : decode cX1_init 74 = .ok (.newarray .boolean, 2) := by decide +kernel
theorem dX1_init_76 : decode cX1_init 76 = .ok (.putfield 42, 3) := by decide +kernel
theorem dX1_init_79 : decode cX1_init 79 = .ok (.aload_n 0, 1) := by decide +kernel
theorem dX1_init_80 : decode cX1_init 80 = .ok (.aload_n 1, 1) := by decide +kernel
theorem dX1_init_81 : decode cX1_init 81 = .ok (.putfield 46, 3) := by decide +kernel
theorem dX1_init_84 : decode cX1_init 84 = .ok (.return_, 1) := by decide +kernel
theorem dX1_forget_0 : decode cX1_forget 0 = .ok (.aload_n 0, 1) := by decide +kernel
theorem dX1_forget_1 : decode cX1_forget 1 = .ok (.dup, 1) := by decide +kernel
theorem dX1_forget_2 : decode cX1_forget 2 = .ok (.getfield 18, 3) := by decide +kernel
theorem dX1_forget_5 : decode cX1_forget 5 = .ok (.iconst 1, 1) := by decide +kernel
theorem dX1_forget_6 : decode cX1_forget 6 = .ok (.iadd, 1) := by decide +kernel
theorem dX1_forget_7 : decode cX1_forget 7 = .ok (.putfield 18, 3) := by decide +kernel
theorem dX1_forget_10 : decode cX1_forget 10 = .ok (.aload_n 0, 1) := by decide +kernel
theorem dX1_forget_11 : decode cX1_forget 11 = .ok (.getfield 12, 3) := by decide +kernel
theorem dX1_forget_14 : decode cX1_forget 14 = .ok (.aload_n 0, 1) := by decide +kernel
theorem dX1_forget_15 : decode cX1_forget 15 = .ok (.getfield 46, 3) := by decide +kernel
theorem dX1_forget_18 : decode cX1_forget 18 = .ok (.invokevirtual 50, 3) := by decide +kernel
theorem dX1_forget_21 : decode cX1_forget 21 = .ok (.return_, 1) := by decide +kernel
theorem dX1_write_0 : decode cX1_write 0 = .ok (.aload_n 0, 1) := by decide +kernel
theorem dX1_write_1 : decode cX1_write 1 = .ok (.getfield 22, 3) := by decide +kernel
theorem dX1_write_4 : decode cX1_write 4 = .ok (.iload_n 1, 1) := by decide +kernel
theorem dX1_write_5 : decode cX1_write 5 = .ok (.iaload, 1) := by decide +kernel
theorem dX1_write_6 : decode cX1_write 6 = .ok (.aload_n 0, 1) := by decide +kernel
theorem dX1_write_7 : decode cX1_write 7 = .ok (.getfield 18, 3) := by decide +kernel
theorem dX1_write_10 : decode cX1_write 10 = .ok (.if_icmp .ne 4, 3) := by decide +kernel
theorem dX1_write_13 : decode cX1_write 13 = .ok (.return_, 1) := by decide +kernel
theorem dX1_write_14 : decode cX1_write 14 = .ok (.aload_n 0, 1) := by decide +kernel
theorem dX1_write_15 : decode cX1_write 15 = .ok (.getfield 12, 3) := by decide +kernel
theorem dX1_write_18 : decode cX1_write 18 = .ok (.aload_n 0, 1) := by decide +kernel
theorem dX1_write_19 : decode cX1_write 19 = .ok (.getfield 46, 3) := by decide +kernel
theorem dX1_write_22 : decode cX1_write 22 = .ok (.iload_n 1, 1) := by decide +kernel
theorem dX1_write_23 : decode cX1_write 23 = .ok (.invokevirtual 54, 3) := by decide +kernel
theorem dX1_write_26 : decode cX1_write 26 = .ok (.aload_n 0, 1) := by decide +kernel
theorem dX1_write_27 : decode cX1_write 27 = .ok (.getfield 26, 3) := by decide +kernel
theorem dX1_write_30 : decode cX1_write 30 = .ok (.iload_n 1, 1) := by decide +kernel
theorem dX1_write_31 : decode cX1_write 31 = .ok (.aload_n 0, 1) := by decide +kernel
theorem dX1_write_32 : decode cX1_write 32 = .ok (.getfield 12, 3) := by decide +kernel
theorem dX1_write_35 : decode cX1_write 35 = .ok (.getfield 58, 3) := by decide +kernel
theorem dX1_write_38 : decode cX1_write 38 = .ok (.iastore, 1) := by decide +kernel
theorem dX1_write_39 : decode cX1_write 39 = .ok (.aload_n 0, 1) := by decide +kernel
theorem dX1_write_40 : decode cX1_write 40 = .ok (.getfield 12, 3) := by decide +kernel
theorem dX1_write_43 : decode cX1_write 43 = .ok (.getfield 60, 3) := by decide +kernel
theorem dX1_write_46 : decode cX1_write 46 = .ok (.iconst 0, 1) := by decide +kernel
theorem dX1_write_47 : decode cX1_write 47 = .ok (.aload_n 0, 1) := by decide +kernel
theorem dX1_write_48 : decode cX1_write 48 = .ok (.getfield 29, 3) := by decide +kernel
theorem dX1_write_51 : decode cX1_write 51 = .ok (.iload_n 1, 1) := by decide +kernel
theorem dX1_write_52 : decode cX1_write 52 = .ok (.bipush 10, 2) := by decide +kernel
theorem dX1_write_54 : decode cX1_write 54 = .ok (.imul, 1) := by decide +kernel
theorem dX1_write_55 : decode cX1_write 55 = .ok (.bipush 10, 2) := by decide +kernel
theorem dX1_write_57 : decode cX1_write 57 = .ok (.invokestatic 61, 3) := by decide +kernel
theorem dX1_write_60 : decode cX1_write 60 = .ok (.aload_n 0, 1) := by decide +kernel
theorem dX1_write_61 : decode cX1_write 61 = .ok (.getfield 22, 3) := by decide +kernel
theorem dX1_write_64 : decode cX1_write 64 = .ok (.iload_n 1, 1) := by decide +kernel
theorem dX1_write_65 : decode cX1_write 65 = .ok (.aload_n 0, 1) := by decide +kernel
theorem dX1_write_66 : decode cX1_write 66 = .ok (.getfield 18, 3) := by decide +kernel
theorem dX1_write_69 : decode cX1_write 69 = .ok (.iastore, 1) := by decide +kernel
theorem dX1_write_70 : decode cX1_write 70 = .ok (.return_, 1) := by decide +kernel
theorem dX1_numberOn_0 : decode cX1_numberOn 0 = .ok (.aload_n 0, 1) := by decide +kernel
theorem dX1_numberOn_1 : decode cX1_numberOn 1 = .ok (.iload_n 2, 1) := by decide +kernel
theorem dX1_numberOn_2 : decode cX1_numberOn 2 = .ok (.invokevirtual 67, 3) := by decide +kernel
theorem dX1_numberOn_5 : decode cX1_numberOn 5 = .ok (.aload_n 0, 1) := by decide +kernel
theorem dX1_numberOn_6 : decode cX1_numberOn 6 = .ok (.getfield 29, 3) := by decide +kernel
theorem dX1_numberOn_9 : decode cX1_numberOn 9 = .ok (.iload_n 2, 1) := by decide +kernel
theorem dX1_numberOn_10 : decode cX1_numberOn 10 = .ok (.bipush 10, 2) := by decide +kernel
theorem dX1_numberOn_12 : decode cX1_numberOn 12 = .ok (.imul, 1) := by decide +kernel
theorem dX1_numberOn_13 : decode cX1_numberOn 13 = .ok (.iload_n 1, 1) := by decide +kernel
theorem dX1_numberOn_14 : decode cX1_numberOn 14 = .ok (.iadd, 1) := by decide +kernel
theorem dX1_numberOn_15 : decode cX1_numberOn 15 = .ok (.laload, 1) := by decide +kernel
theorem dX1_numberOn_16 : decode cX1_numberOn 16 = .ok (.lreturn, 1) := by decide +kernel
theorem dX1_isOpen_0 : decode cX1_isOpen 0 = .ok (.iload_n 2, 1) := by decide +kernel
theorem dX1_isOpen_1 : decode cX1_isOpen 1 = .ok (.iload_n 1, 1) := by decide +kernel
theorem dX1_isOpen_2 : decode cX1_isOpen 2 = .ok (.iconst 0, 1) := by decide +kernel
theorem dX1_isOpen_3 : decode cX1_isOpen 3 = .ok (.invokestatic 71, 3) := by decide +kernel
theorem dX1_isOpen_6 : decode cX1_isOpen 6 = .ok (.istore_n 3, 1) := by decide +kernel
theorem dX1_isOpen_7 : decode cX1_isOpen 7 = .ok (.aload_n 0, 1) := by decide +kernel
theorem dX1_isOpen_8 : decode cX1_isOpen 8 = .ok (.iload_n 3, 1) := by decide +kernel
theorem dX1_isOpen_9 : decode cX1_isOpen 9 = .ok (.invokevirtual 67, 3) := by decide +kernel
theorem dX1_isOpen_12 : decode cX1_isOpen 12 = .ok (.aload_n 0, 1) := by decide +kernel
theorem dX1_isOpen_13 : decode cX1_isOpen 13 = .ok (.getfield 26, 3) := by decide +kernel
theorem dX1_isOpen_16 : decode cX1_isOpen 16 = .ok (.iload_n 3, 1) := by decide +kernel
theorem dX1_isOpen_17 : decode cX1_isOpen 17 = .ok (.iaload, 1) := by decide +kernel
theorem dX1_isOpen_18 : decode cX1_isOpen 18 = .ok (.iload_n 1, 1) := by decide +kernel
theorem dX1_isOpen_19 : decode cX1_isOpen 19 = .ok (.invokestatic 75, 3) := by decide +kernel
theorem dX1_isOpen_22 : decode cX1_isOpen 22 = .ok (.ireturn, 1) := by decide +kernel
theorem dX1_isLawful_0 : decode cX1_isLawful 0 = .ok (.iconst 0, 1) := by decide +kernel
theorem dX1_isLawful_1 : decode cX1_isLawful 1 = .ok (.istore_n 2, 1) := by decide +kernel
theorem dX1_isLawful_2 : decode cX1_isLawful 2 = .ok (.iload_n 2, 1) := by decide +kernel
theorem dX1_isLawful_3 : decode cX1_isLawful 3 = .ok (.bipush 8, 2) := by decide +kernel
theorem dX1_isLawful_5 : decode cX1_isLawful 5 = .ok (.if_icmp .ge 44, 3) := by decide +kernel
theorem dX1_isLawful_8 : decode cX1_isLawful 8 = .ok (.iload_n 1, 1) := by decide +kernel
theorem dX1_isLawful_9 : decode cX1_isLawful 9 = .ok (.iload_n 2, 1) := by decide +kernel
theorem dX1_isLawful_10 : decode cX1_isLawful 10 = .ok (.invokestatic 75, 3) := by decide +kernel
theorem dX1_isLawful_13 : decode cX1_isLawful 13 = .ok (.ifCond .eq 30, 3) := by decide +kernel
theorem dX1_isLawful_16 : decode cX1_isLawful 16 = .ok (.iload_n 1, 1) := by decide +kernel
theorem dX1_isLawful_17 : decode cX1_isLawful 17 = .ok (.iload_n 2, 1) := by decide +kernel
theorem dX1_isLawful_18 : decode cX1_isLawful 18 = .ok (.iconst 0, 1) := by decide +kernel
theorem dX1_isLawful_19 : decode cX1_isLawful 19 = .ok (.invokestatic 71, 3) := by decide +kernel
theorem dX1_isLawful_22 : decode cX1_isLawful 22 = .ok (.istore_n 3, 1) := by decide +kernel
theorem dX1_isLawful_23 : decode cX1_isLawful 23 = .ok (.aload_n 0, 1) := by decide +kernel
theorem dX1_isLawful_24 : decode cX1_isLawful 24 = .ok (.iload_n 3, 1) := by decide +kernel
theorem dX1_isLawful_25 : decode cX1_isLawful 25 = .ok (.invokevirtual 67, 3) := by decide +kernel
theorem dX1_isLawful_28 : decode cX1_isLawful 28 = .ok (.aload_n 0, 1) := by decide +kernel
theorem dX1_isLawful_29 : decode cX1_isLawful 29 = .ok (.getfield 26, 3) := by decide +kernel
theorem dX1_isLawful_32 : decode cX1_isLawful 32 = .ok (.iload_n 3, 1) := by decide +kernel
theorem dX1_isLawful_33 : decode cX1_isLawful 33 = .ok (.iaload, 1) := by decide +kernel
theorem dX1_isLawful_34 : decode cX1_isLawful 34 = .ok (.iload_n 2, 1) := by decide +kernel
theorem dX1_isLawful_35 : decode cX1_isLawful 35 = .ok (.invokestatic 75, 3) := by decide +kernel
theorem dX1_isLawful_38 : decode cX1_isLawful 38 = .ok (.ifCond .ne 5, 3) := by decide +kernel
theorem dX1_isLawful_41 : decode cX1_isLawful 41 = .ok (.iconst 0, 1) := by decide +kernel
theorem dX1_isLawful_42 : decode cX1_isLawful 42 = .ok (.ireturn, 1) := by decide +kernel
theorem dX1_isLawful_43 : decode cX1_isLawful 43 = .ok (.iinc 2 1, 3) := by decide +kernel
theorem dX1_isLawful_46 : decode cX1_isLawful 46 = .ok (.goto (-44), 3) := by decide +kernel
theorem dX1_isLawful_49 : decode cX1_isLawful 49 = .ok (.iconst 1, 1) := by decide +kernel
theorem dX1_isLawful_50 : decode cX1_isLawful 50 = .ok (.ireturn, 1) := by decide +kernel
theorem dX1_lawfulSheets_0 : decode cX1_lawfulSheets 0 = .ok (.iconst 0, 1) := by decide +kernel
theorem dX1_lawfulSheets_1 : decode cX1_lawfulSheets 1 = .ok (.istore_n 1, 1) := by decide +kernel
theorem dX1_lawfulSheets_2 : decode cX1_lawfulSheets 2 = .ok (.iconst 0, 1) := by decide +kernel
theorem dX1_lawfulSheets_3 : decode cX1_lawfulSheets 3 = .ok (.istore_n 2, 1) := by decide +kernel
theorem dX1_lawfulSheets_4 : decode cX1_lawfulSheets 4 = .ok (.iload_n 2, 1) := by decide +kernel
theorem dX1_lawfulSheets_5 : decode cX1_lawfulSheets 5 = .ok (.sipush 256, 3) := by decide +kernel
theorem dX1_lawfulSheets_8 : decode cX1_lawfulSheets 8 = .ok (.if_icmp .ge 20, 3) := by decide +kernel
theorem dX1_lawfulSheets_11 : decode cX1_lawfulSheets 11 = .ok (.aload_n 0, 1) := by decide +kernel
theorem dX1_lawfulSheets_12 : decode cX1_lawfulSheets 12 = .ok (.iload_n 2, 1) := by decide +kernel
theorem dX1_lawfulSheets_13 : decode cX1_lawfulSheets 13 = .ok (.invokevirtual 79, 3) := by decide +kernel
theorem dX1_lawfulSheets_16 : decode cX1_lawfulSheets 16 = .ok (.ifCond .eq 6, 3) := by decide +kernel
theorem dX1_lawfulSheets_19 : decode cX1_lawfulSheets 19 = .ok (.iinc 1 1, 3) := by decide +kernel
theorem dX1_lawfulSheets_22 : decode cX1_lawfulSheets 22 = .ok (.iinc 2 1, 3) := by decide +kernel
theorem dX1_lawfulSheets_25 : decode cX1_lawfulSheets 25 = .ok (.goto (-21), 3) := by decide +kernel
theorem dX1_lawfulSheets_28 : decode cX1_lawfulSheets 28 = .ok (.iload_n 1, 1) := by decide +kernel
theorem dX1_lawfulSheets_29 : decode cX1_lawfulSheets 29 = .ok (.ireturn, 1) := by decide +kernel
theorem dX1_mended_0 : decode cX1_mended 0 = .ok (.iconst 0, 1) := by decide +kernel
theorem dX1_mended_1 : decode cX1_mended 1 = .ok (.istore_n 2, 1) := by decide +kernel
theorem dX1_mended_2 : decode cX1_mended 2 = .ok (.sipush 255, 3) := by decide +kernel
theorem dX1_mended_5 : decode cX1_mended 5 = .ok (.istore_n 3, 1) := by decide +kernel
theorem dX1_mended_6 : decode cX1_mended 6 = .ok (.iload_n 3, 1) := by decide +kernel
theorem dX1_mended_7 : decode cX1_mended 7 = .ok (.ifCond .le 50, 3) := by decide +kernel
theorem dX1_mended_10 : decode cX1_mended 10 = .ok (.iload_n 3, 1) := by decide +kernel
theorem dX1_mended_11 : decode cX1_mended 11 = .ok (.iload_n 1, 1) := by decide +kernel
theorem dX1_mended_12 : decode cX1_mended 12 = .ok (.iconst (-1), 1) := by decide +kernel
theorem dX1_mended_13 : decode cX1_mended 13 = .ok (.ixor, 1) := by decide +kernel
theorem dX1_mended_14 : decode cX1_mended 14 = .ok (.iand, 1) := by decide +kernel
theorem dX1_mended_15 : decode cX1_mended 15 = .ok (.ifCond .ne 7, 3) := by decide +kernel
theorem dX1_mended_18 : decode cX1_mended 18 = .ok (.iconst 1, 1) := by decide +kernel
theorem dX1_mended_19 : decode cX1_mended 19 = .ok (.goto 4, 3) := by decide +kernel
theorem dX1_mended_22 : decode cX1_mended 22 = .ok (.iconst 0, 1) := by decide +kernel
theorem dX1_mended_23 : decode cX1_mended 23 = .ok (.istore 4, 2) := by decide +kernel
theorem dX1_mended_25 : decode cX1_mended 25 = .ok (.iload 4, 2) := by decide +kernel
theorem dX1_mended_27 : decode cX1_mended 27 = .ok (.ifCond .eq 24, 3) := by decide +kernel
theorem dX1_mended_30 : decode cX1_mended 30 = .ok (.iload_n 3, 1) := by decide +kernel
theorem dX1_mended_31 : decode cX1_mended 31 = .ok (.invokestatic 83, 3) := by decide +kernel
theorem dX1_mended_34 : decode cX1_mended 34 = .ok (.iload_n 2, 1) := by decide +kernel
theorem dX1_mended_35 : decode cX1_mended 35 = .ok (.invokestatic 83, 3) := by decide +kernel
theorem dX1_mended_38 : decode cX1_mended 38 = .ok (.if_icmp .le 13, 3) := by decide +kernel
theorem dX1_mended_41 : decode cX1_mended 41 = .ok (.aload_n 0, 1) := by decide +kernel
theorem dX1_mended_42 : decode cX1_mended 42 = .ok (.iload_n 3, 1) := by decide +kernel
theorem dX1_mended_43 : decode cX1_mended 43 = .ok (.invokevirtual 79, 3) := by decide +kernel
theorem dX1_mended_46 : decode cX1_mended 46 = .ok (.ifCond .eq 5, 3) := by decide +kernel
theorem dX1_mended_49 : decode cX1_mended 49 = .ok (.iload_n 3, 1) := by decide +kernel
theorem dX1_mended_50 : decode cX1_mended 50 = .ok (.istore_n 2, 1) := by decide +kernel
theorem dX1_mended_51 : decode cX1_mended 51 = .ok (.iinc 3 (-1), 3) := by decide +kernel
theorem dX1_mended_54 : decode cX1_mended 54 = .ok (.goto (-48), 3) := by decide +kernel
theorem dX1_mended_57 : decode cX1_mended 57 = .ok (.iload_n 2, 1) := by decide +kernel
theorem dX1_mended_58 : decode cX1_mended 58 = .ok (.ireturn, 1) := by decide +kernel
theorem dX1_bestSheet_0 : decode cX1_bestSheet 0 = .ok (.iconst (-1), 1) := by decide +kernel
theorem dX1_bestSheet_1 : decode cX1_bestSheet 1 = .ok (.istore 5, 2) := by decide +kernel
theorem dX1_bestSheet_3 : decode cX1_bestSheet 3 = .ok (.iload_n 2, 1) := by decide +kernel
theorem dX1_bestSheet_4 : decode cX1_bestSheet 4 = .ok (.invokestatic 89, 3) := by decide +kernel
theorem dX1_bestSheet_7 : decode cX1_bestSheet 7 = .ok (.ifCond .eq 10, 3) := by decide +kernel
theorem dX1_bestSheet_10 : decode cX1_bestSheet 10 = .ok (.iload_n 3, 1) := by decide +kernel
theorem dX1_bestSheet_11 : decode cX1_bestSheet 11 = .ok (.invokestatic 89, 3) := by decide +kernel
theorem dX1_bestSheet_14 : decode cX1_bestSheet 14 = .ok (.ifCond .ne 6, 3) := by decide +kernel
theorem dX1_bestSheet_17 : decode cX1_bestSheet 17 = .ok (.iload 5, 2) := by decide +kernel
theorem dX1_bestSheet_19 : decode cX1_bestSheet 19 = .ok (.ireturn, 1) := by decide +kernel
theorem dX1_bestSheet_20 : decode cX1_bestSheet 20 = .ok (.iconst 0, 1) := by decide +kernel
theorem dX1_bestSheet_21 : decode cX1_bestSheet 21 = .ok (.istore 6, 2) := by decide +kernel
theorem dX1_bestSheet_23 : decode cX1_bestSheet 23 = .ok (.iload 6, 2) := by decide +kernel
theorem dX1_bestSheet_25 : decode cX1_bestSheet 25 = .ok (.sipush 256, 3) := by decide +kernel
theorem dX1_bestSheet_28 : decode cX1_bestSheet 28 = .ok (.if_icmp .ge 68, 3) := by decide +kernel
theorem dX1_bestSheet_31 : decode cX1_bestSheet 31 = .ok (.iload 6, 2) := by decide +kernel
theorem dX1_bestSheet_33 : decode cX1_bestSheet 33 = .ok (.iload_n 2, 1) := by decide +kernel
theorem dX1_bestSheet_34 : decode cX1_bestSheet 34 = .ok (.iand, 1) := by decide +kernel
theorem dX1_bestSheet_35 : decode cX1_bestSheet 35 = .ok (.iload_n 2, 1) := by decide +kernel
theorem dX1_bestSheet_36 : decode cX1_bestSheet 36 = .ok (.if_icmp .ne 54, 3) := by decide +kernel
theorem dX1_bestSheet_39 : decode cX1_bestSheet 39 = .ok (.iload 6, 2) := by decide +kernel
theorem dX1_bestSheet_41 : decode cX1_bestSheet 41 = .ok (.iload_n 3, 1) := by decide +kernel
theorem dX1_bestSheet_42 : decode cX1_bestSheet 42 = .ok (.iand, 1) := by decide +kernel
theorem dX1_bestSheet_43 : decode cX1_bestSheet 43 = .ok (.ifCond .ne 47, 3) := by decide +kernel
theorem dX1_bestSheet_46 : decode cX1_bestSheet 46 = .ok (.aload_n 0, 1) := by decide +kernel
theorem dX1_bestSheet_47 : decode cX1_bestSheet 47 = .ok (.iload 6, 2) := by decide +kernel
theorem dX1_bestSheet_49 : decode cX1_bestSheet 49 = .ok (.invokevirtual 79, 3) := by decide +kernel
theorem dX1_bestSheet_52 : decode cX1_bestSheet 52 = .ok (.ifCond .ne 6, 3) := by decide +kernel
theorem dX1_bestSheet_55 : decode cX1_bestSheet 55 = .ok (.goto 35, 3) := by decide +kernel
theorem dX1_bestSheet_58 : decode cX1_bestSheet 58 = .ok (.iload 5, 2) := by decide +kernel
theorem dX1_bestSheet_60 : decode cX1_bestSheet 60 = .ok (.iconst (-1), 1) := by decide +kernel
theorem dX1_bestSheet_61 : decode cX1_bestSheet 61 = .ok (.if_icmp .eq 25, 3) := by decide +kernel
theorem dX1_bestSheet_64 : decode cX1_bestSheet 64 = .ok (.aload_n 0, 1) := by decide +kernel
theorem dX1_bestSheet_65 : decode cX1_bestSheet 65 = .ok (.iload_n 1, 1) := by decide +kernel
theorem dX1_bestSheet_66 : decode cX1_bestSheet 66 = .ok (.iload 6, 2) := by decide +kernel
theorem dX1_bestSheet_68 : decode cX1_bestSheet 68 = .ok (.invokevirtual 92, 3) := by decide +kernel
theorem dX1_bestSheet_71 : decode cX1_bestSheet 71 = .ok (.aload_n 0, 1) := by decide +kernel
theorem dX1_bestSheet_72 : decode cX1_bestSheet 72 = .ok (.iload_n 1, 1) := by decide +kernel
theorem dX1_bestSheet_73 : decode cX1_bestSheet 73 = .ok (.iload 5, 2) := by decide +kernel
theorem dX1_bestSheet_75 : decode cX1_bestSheet 75 = .ok (.invokevirtual 92, 3) := by decide +kernel
theorem dX1_bestSheet_78 : decode cX1_bestSheet 78 = .ok (.iload 4, 2) := by decide +kernel
theorem dX1_bestSheet_80 : decode cX1_bestSheet 80 = .ok (.invokestatic 96, 3) := by decide +kernel
theorem dX1_bestSheet_83 : decode cX1_bestSheet 83 = .ok (.ifCond .eq 7, 3) := by decide +kernel
theorem dX1_bestSheet_86 : decode cX1_bestSheet 86 = .ok (.iload 6, 2) := by decide +kernel
theorem dX1_bestSheet_88 : decode cX1_bestSheet 88 = .ok (.istore 5, 2) := by decide +kernel
theorem dX1_bestSheet_90 : decode cX1_bestSheet 90 = .ok (.iinc 6 1, 3) := by decide +kernel
theorem dX1_bestSheet_93 : decode cX1_bestSheet 93 = .ok (.goto (-70), 3) := by decide +kernel
theorem dX1_bestSheet_96 : decode cX1_bestSheet 96 = .ok (.iload 5, 2) := by decide +kernel
theorem dX1_bestSheet_98 : decode cX1_bestSheet 98 = .ok (.ireturn, 1) := by decide +kernel
theorem dX1_isBetter_0 : decode cX1_isBetter 0 = .ok (.iload 4, 2) := by decide +kernel
theorem dX1_isBetter_2 : decode cX1_isBetter 2 = .ok (.ifCond .eq 17, 3) := by decide +kernel
theorem dX1_isBetter_5 : decode cX1_isBetter 5 = .ok (.lload_n 0, 1) := by decide +kernel
theorem dX1_isBetter_6 : decode cX1_isBetter 6 = .ok (.lload_n 2, 1) := by decide +kernel
theorem dX1_isBetter_7 : decode cX1_isBetter 7 = .ok (.lcmp, 1) := by decide +kernel
theorem dX1_isBetter_8 : decode cX1_isBetter 8 = .ok (.ifCond .ge 7, 3) := by decide +kernel
theorem dX1_isBetter_11 : decode cX1_isBetter 11 = .ok (.iconst 1, 1) := by decide +kernel
theorem dX1_isBetter_12 : decode cX1_isBetter 12 = .ok (.goto 18, 3) := by decide +kernel
theorem dX1_isBetter_15 : decode cX1_isBetter 15 = .ok (.iconst 0, 1) := by decide +kernel
theorem dX1_isBetter_16 : decode cX1_isBetter 16 = .ok (.goto 14, 3) := by decide +kernel
theorem dX1_isBetter_19 : decode cX1_isBetter 19 = .ok (.lload_n 0, 1) := by decide +kernel
theorem dX1_isBetter_20 : decode cX1_isBetter 20 = .ok (.lload_n 2, 1) := by decide +kernel
theorem dX1_isBetter_21 : decode cX1_isBetter 21 = .ok (.lcmp, 1) := by decide +kernel
theorem dX1_isBetter_22 : decode cX1_isBetter 22 = .ok (.ifCond .le 7, 3) := by decide +kernel
theorem dX1_isBetter_25 : decode cX1_isBetter 25 = .ok (.iconst 1, 1) := by decide +kernel
theorem dX1_isBetter_26 : decode cX1_isBetter 26 = .ok (.goto 4, 3) := by decide +kernel
theorem dX1_isBetter_29 : decode cX1_isBetter 29 = .ok (.iconst 0, 1) := by decide +kernel
theorem dX1_isBetter_30 : decode cX1_isBetter 30 = .ok (.ireturn, 1) := by decide +kernel
theorem dX1_unbettered_0 : decode cX1_unbettered 0 = .ok (.aload_n 0, 1) := by decide +kernel
theorem dX1_unbettered_1 : decode cX1_unbettered 1 = .ok (.iconst 0, 1) := by decide +kernel
theorem dX1_unbettered_2 : decode cX1_unbettered 2 = .ok (.putfield 39, 3) := by decide +kernel
theorem dX1_unbettered_5 : decode cX1_unbettered 5 = .ok (.iconst 0, 1) := by decide +kernel
theorem dX1_unbettered_6 : decode cX1_unbettered 6 = .ok (.istore_n 3, 1) := by decide +kernel
theorem dX1_unbettered_7 : decode cX1_unbettered 7 = .ok (.iload_n 3, 1) := by decide +kernel
theorem dX1_unbettered_8 : decode cX1_unbettered 8 = .ok (.sipush 256, 3) := by decide +kernel
theorem dX1_unbettered_11 : decode cX1_unbettered 11 = .ok (.if_icmp .ge 33, 3) := by decide +kernel
theorem dX1_unbettered_14 : decode cX1_unbettered 14 = .ok (.aload_n 0, 1) := by decide +kernel
theorem dX1_unbettered_15 : decode cX1_unbettered 15 = .ok (.iload_n 3, 1) := by decide +kernel
theorem dX1_unbettered_16 : decode cX1_unbettered 16 = .ok (.invokevirtual 79, 3) := by decide +kernel
theorem dX1_unbettered_19 : decode cX1_unbettered 19 = .ok (.ifCond .eq 19, 3) := by decide +kernel
theorem dX1_unbettered_22 : decode cX1_unbettered 22 = .ok (.aload_n 0, 1) := by decide +kernel
theorem dX1_unbettered_23 : decode cX1_unbettered 23 = .ok (.aload_n 0, 1) := by decide +kernel
theorem dX1_unbettered_24 : decode cX1_unbettered 24 = .ok (.iload_n 1, 1) := by decide +kernel
theorem dX1_unbettered_25 : decode cX1_unbettered 25 = .ok (.iload_n 3, 1) := by decide +kernel
theorem dX1_unbettered_26 : decode cX1_unbettered 26 = .ok (.invokevirtual 92, 3) := by decide +kernel
theorem dX1_unbettered_29 : decode cX1_unbettered 29 = .ok (.aload_n 0, 1) := by decide +kernel
theorem dX1_unbettered_30 : decode cX1_unbettered 30 = .ok (.iload_n 2, 1) := by decide +kernel
theorem dX1_unbettered_31 : decode cX1_unbettered 31 = .ok (.iload_n 3, 1) := by decide +kernel
theorem dX1_unbettered_32 : decode cX1_unbettered 32 = .ok (.invokevirtual 92, 3) := by decide +kernel
theorem dX1_unbettered_35 : decode cX1_unbettered 35 = .ok (.invokevirtual 100, 3) := by decide +kernel
theorem dX1_unbettered_38 : decode cX1_unbettered 38 = .ok (.iinc 3 1, 3) := by decide +kernel
theorem dX1_unbettered_41 : decode cX1_unbettered 41 = .ok (.goto (-34), 3) := by decide +kernel
theorem dX1_unbettered_44 : decode cX1_unbettered 44 = .ok (.aload_n 0, 1) := by decide +kernel
theorem dX1_unbettered_45 : decode cX1_unbettered 45 = .ok (.getfield 39, 3) := by decide +kernel
theorem dX1_unbettered_48 : decode cX1_unbettered 48 = .ok (.ireturn, 1) := by decide +kernel
theorem dX1_joinFront_0 : decode cX1_joinFront 0 = .ok (.iconst 0, 1) := by decide +kernel
theorem dX1_joinFront_1 : decode cX1_joinFront 1 = .ok (.istore 5, 2) := by decide +kernel
theorem dX1_joinFront_3 : decode cX1_joinFront 3 = .ok (.iload 5, 2) := by decide +kernel
theorem dX1_joinFront_5 : decode cX1_joinFront 5 = .ok (.aload_n 0, 1) := by decide +kernel
theorem dX1_joinFront_6 : decode cX1_joinFront 6 = .ok (.getfield 39, 3) := by decide +kernel
theorem dX1_joinFront_9 : decode cX1_joinFront 9 = .ok (.if_icmp .ge 34, 3) := by decide +kernel
theorem dX1_joinFront_12 : decode cX1_joinFront 12 = .ok (.aload_n 0, 1) := by decide +kernel
theorem dX1_joinFront_13 : decode cX1_joinFront 13 = .ok (.getfield 33, 3) := by decide +kernel
theorem dX1_joinFront_16 : decode cX1_joinFront 16 = .ok (.iload 5, 2) := by decide +kernel
theorem dX1_joinFront_18 : decode cX1_joinFront 18 = .ok (.laload, 1) := by decide +kernel
theorem dX1_joinFront_19 : decode cX1_joinFront 19 = .ok (.lload_n 1, 1) := by decide +kernel
theorem dX1_joinFront_20 : decode cX1_joinFront 20 = .ok (.lcmp, 1) := by decide +kernel
theorem dX1_joinFront_21 : decode cX1_joinFront 21 = .ok (.ifCond .lt 16, 3) := by decide +kernel
theorem dX1_joinFront_24 : decode cX1_joinFront 24 = .ok (.aload_n 0, 1) := by decide +kernel
theorem dX1_joinFront_25 : decode cX1_joinFront 25 = .ok (.getfield 36, 3) := by decide +kernel
theorem dX1_joinFront_28 : decode cX1_joinFront 28 = .ok (.iload 5, 2) := by decide +kernel
theorem dX1_joinFront_30 : decode cX1_joinFront 30 = .ok (.laload, 1) := by decide +kernel
theorem dX1_joinFront_31 : decode cX1_joinFront 31 = .ok (.lload_n 3, 1) := by decide +kernel
theorem dX1_joinFront_32 : decode cX1_joinFront 32 = .ok (.lcmp, 1) := by decide +kernel
theorem dX1_joinFront_33 : decode cX1_joinFront 33 = .ok (.ifCond .lt 4, 3) := by decide +kernel
theorem dX1_joinFront_36 : decode cX1_joinFront 36 = .ok (.return_, 1) := by decide +kernel
theorem dX1_joinFront_37 : decode cX1_joinFront 37 = .ok (.iinc 5 1, 3) := by decide +kernel
theorem dX1_joinFront_40 : decode cX1_joinFront 40 = .ok (.goto (-37), 3) := by decide +kernel
theorem dX1_joinFront_43 : decode cX1_joinFront 43 = .ok (.iconst 0, 1) := by decide +kernel
theorem dX1_joinFront_44 : decode cX1_joinFront 44 = .ok (.istore 5, 2) := by decide +kernel
theorem dX1_joinFront_46 : decode cX1_joinFront 46 = .ok (.iconst 0, 1) := by decide +kernel
theorem dX1_joinFront_47 : decode cX1_joinFront 47 = .ok (.istore 6, 2) := by decide +kernel
theorem dX1_joinFront_49 : decode cX1_joinFront 49 = .ok (.iload 6, 2) := by decide +kernel
theorem dX1_joinFront_51 : decode cX1_joinFront 51 = .ok (.aload_n 0, 1) := by decide +kernel
theorem dX1_joinFront_52 : decode cX1_joinFront 52 = .ok (.getfield 39, 3) := by decide +kernel
theorem dX1_joinFront_55 : decode cX1_joinFront 55 = .ok (.if_icmp .ge 64, 3) := by decide +kernel
theorem dX1_joinFront_58 : decode cX1_joinFront 58 = .ok (.aload_n 0, 1) := by decide +kernel
theorem dX1_joinFront_59 : decode cX1_joinFront 59 = .ok (.getfield 33, 3) := by decide +kernel
theorem dX1_joinFront_62 : decode cX1_joinFront 62 = .ok (.iload 6, 2) := by decide +kernel
theorem dX1_joinFront_64 : decode cX1_joinFront 64 = .ok (.laload, 1) := by decide +kernel
theorem dX1_joinFront_65 : decode cX1_joinFront 65 = .ok (.lload_n 1, 1) := by decide +kernel
theorem dX1_joinFront_66 : decode cX1_joinFront 66 = .ok (.lcmp, 1) := by decide +kernel
theorem dX1_joinFront_67 : decode cX1_joinFront 67 = .ok (.ifCond .gt 15, 3) := by decide +kernel
theorem dX1_joinFront_70 : decode cX1_joinFront 70 = .ok (.aload_n 0, 1) := by decide +kernel
theorem dX1_joinFront_71 : decode cX1_joinFront 71 = .ok (.getfield 36, 3) := by decide +kernel
theorem dX1_joinFront_74 : decode cX1_joinFront 74 = .ok (.iload 6, 2) := by decide +kernel
theorem dX1_joinFront_76 : decode cX1_joinFront 76 = .ok (.laload, 1) := by decide +kernel
theorem dX1_joinFront_77 : decode cX1_joinFront 77 = .ok (.lload_n 3, 1) := by decide +kernel
theorem dX1_joinFront_78 : decode cX1_joinFront 78 = .ok (.lcmp, 1) := by decide +kernel
theorem dX1_joinFront_79 : decode cX1_joinFront 79 = .ok (.ifCond .le 34, 3) := by decide +kernel
theorem dX1_joinFront_82 : decode cX1_joinFront 82 = .ok (.aload_n 0, 1) := by decide +kernel
theorem dX1_joinFront_83 : decode cX1_joinFront 83 = .ok (.getfield 33, 3) := by decide +kernel
theorem dX1_joinFront_86 : decode cX1_joinFront 86 = .ok (.iload 5, 2) := by decide +kernel
theorem dX1_joinFront_88 : decode cX1_joinFront 88 = .ok (.aload_n 0, 1) := by decide +kernel
theorem dX1_joinFront_89 : decode cX1_joinFront 89 = .ok (.getfield 33, 3) := by decide +kernel
theorem dX1_joinFront_92 : decode cX1_joinFront 92 = .ok (.iload 6, 2) := by decide +kernel
theorem dX1_joinFront_94 : decode cX1_joinFront 94 = .ok (.laload, 1) := by decide +kernel
theorem dX1_joinFront_95 : decode cX1_joinFront 95 = .ok (.lastore, 1) := by decide +kernel
theorem dX1_joinFront_96 : decode cX1_joinFront 96 = .ok (.aload_n 0, 1) := by decide +kernel
theorem dX1_joinFront_97 : decode cX1_joinFront 97 = .ok (.getfield 36, 3) := by decide +kernel
theorem dX1_joinFront_100 : decode cX1_joinFront 100 = .ok (.iload 5, 2) := by decide +kernel
theorem dX1_joinFront_102 : decode cX1_joinFront 102 = .ok (.aload_n 0, 1) := by decide +kernel
theorem dX1_joinFront_103 : decode cX1_joinFront 103 = .ok (.getfield 36, 3) := by decide +kernel
theorem dX1_joinFront_106 : decode cX1_joinFront 106 = .ok (.iload 6, 2) := by decide +kernel
theorem dX1_joinFront_108 : decode cX1_joinFront 108 = .ok (.laload, 1) := by decide +kernel
theorem dX1_joinFront_109 : decode cX1_joinFront 109 = .ok (.lastore, 1) := by decide +kernel
theorem dX1_joinFront_110 : decode cX1_joinFront 110 = .ok (.iinc 5 1, 3) := by decide +kernel
theorem dX1_joinFront_113 : decode cX1_joinFront 113 = .ok (.iinc 6 1, 3) := by decide +kernel
theorem dX1_joinFront_116 : decode cX1_joinFront 116 = .ok (.goto (-67), 3) := by decide +kernel
theorem dX1_joinFront_119 : decode cX1_joinFront 119 = .ok (.aload_n 0, 1) := by decide +kernel
theorem dX1_joinFront_120 : decode cX1_joinFront 120 = .ok (.getfield 33, 3) := by decide +kernel
theorem dX1_joinFront_123 : decode cX1_joinFront 123 = .ok (.iload 5, 2) := by decide +kernel
theorem dX1_joinFront_125 : decode cX1_joinFront 125 = .ok (.lload_n 1, 1) := by decide +kernel
theorem dX1_joinFront_126 : decode cX1_joinFront 126 = .ok (.lastore, 1) := by decide +kernel
theorem dX1_joinFront_127 : decode cX1_joinFront 127 = .ok (.aload_n 0, 1) := by decide +kernel
theorem dX1_joinFront_128 : decode cX1_joinFront 128 = .ok (.getfield 36, 3) := by decide +kernel
theorem dX1_joinFront_131 : decode cX1_joinFront 131 = .ok (.iload 5, 2) := by decide +kernel
theorem dX1_joinFront_133 : decode cX1_joinFront 133 = .ok (.lload_n 3, 1) := by decide +kernel
theorem dX1_joinFront_134 : decode cX1_joinFront 134 = .ok (.lastore, 1) := by decide +kernel
theorem dX1_joinFront_135 : decode cX1_joinFront 135 = .ok (.aload_n 0, 1) := by decide +kernel
theorem dX1_joinFront_136 : decode cX1_joinFront 136 = .ok (.iload 5, 2) := by decide +kernel
theorem dX1_joinFront_138 : decode cX1_joinFront 138 = .ok (.iconst 1, 1) := by decide +kernel
theorem dX1_joinFront_139 : decode cX1_joinFront 139 = .ok (.iadd, 1) := by decide +kernel
theorem dX1_joinFront_140 : decode cX1_joinFront 140 = .ok (.putfield 39, 3) := by decide +kernel
theorem dX1_joinFront_143 : decode cX1_joinFront 143 = .ok (.return_, 1) := by decide +kernel
theorem dX1_markLeading_0 : decode cX1_markLeading 0 = .ok (.sipush 255, 3) := by decide +kernel
theorem dX1_markLeading_3 : decode cX1_markLeading 3 = .ok (.istore_n 2, 1) := by decide +kernel
theorem dX1_markLeading_4 : decode cX1_markLeading 4 = .ok (.iload_n 2, 1) := by decide +kernel
theorem dX1_markLeading_5 : decode cX1_markLeading 5 = .ok (.ifCond .lt 61, 3) := by decide +kernel
theorem dX1_markLeading_8 : decode cX1_markLeading 8 = .ok (.iload_n 2, 1) := by decide +kernel
theorem dX1_markLeading_9 : decode cX1_markLeading 9 = .ok (.iload_n 1, 1) := by decide +kernel
theorem dX1_markLeading_10 : decode cX1_markLeading 10 = .ok (.iconst (-1), 1) := by decide +kernel
theorem dX1_markLeading_11 : decode cX1_markLeading 11 = .ok (.ixor, 1) := by decide +kernel
theorem dX1_markLeading_12 : decode cX1_markLeading 12 = .ok (.iand, 1) := by decide +kernel
theorem dX1_markLeading_13 : decode cX1_markLeading 13 = .ok (.ifCond .ne 7, 3) := by decide +kernel
theorem dX1_markLeading_16 : decode cX1_markLeading 16 = .ok (.iconst 1, 1) := by decide +kernel
theorem dX1_markLeading_17 : decode cX1_markLeading 17 = .ok (.goto 4, 3) := by decide +kernel
theorem dX1_markLeading_20 : decode cX1_markLeading 20 = .ok (.iconst 0, 1) := by decide +kernel
theorem dX1_markLeading_21 : decode cX1_markLeading 21 = .ok (.istore_n 3, 1) := by decide +kernel
theorem dX1_markLeading_22 : decode cX1_markLeading 22 = .ok (.aload_n 0, 1) := by decide +kernel
theorem dX1_markLeading_23 : decode cX1_markLeading 23 = .ok (.getfield 42, 3) := by decide +kernel
theorem dX1_markLeading_26 : decode cX1_markLeading 26 = .ok (.iload_n 2, 1) := by decide +kernel
theorem dX1_markLeading_27 : decode cX1_markLeading 27 = .ok (.iload_n 3, 1) := by decide +kernel
theorem dX1_markLeading_28 : decode cX1_markLeading 28 = .ok (.ifCond .eq 30, 3) := by decide +kernel
theorem dX1_markLeading_31 : decode cX1_markLeading 31 = .ok (.iload_n 2, 1) := by decide +kernel
theorem dX1_markLeading_32 : decode cX1_markLeading 32 = .ok (.iload_n 1, 1) := by decide +kernel
theorem dX1_markLeading_33 : decode cX1_markLeading 33 = .ok (.if_icmp .eq 13, 3) := by decide +kernel
theorem dX1_markLeading_36 : decode cX1_markLeading 36 = .ok (.aload_n 0, 1) := by decide +kernel
theorem dX1_markLeading_37 : decode cX1_markLeading 37 = .ok (.iload_n 2, 1) := by decide +kernel
theorem dX1_markLeading_38 : decode cX1_markLeading 38 = .ok (.iload_n 1, 1) := by decide +kernel
theorem dX1_markLeading_39 : decode cX1_markLeading 39 = .ok (.invokevirtual 104, 3) := by decide +kernel
theorem dX1_markLeading_42 : decode cX1_markLeading 42 = .ok (.iconst (-1), 1) := by decide +kernel
theorem dX1_markLeading_43 : decode cX1_markLeading 43 = .ok (.if_icmp .eq 15, 3) := by decide +kernel
theorem dX1_markLeading_46 : decode cX1_markLeading 46 = .ok (.aload_n 0, 1) := by decide +kernel
theorem dX1_markLeading_47 : decode cX1_markLeading 47 = .ok (.iload_n 2, 1) := by decide +kernel
theorem dX1_markLeading_48 : decode cX1_markLeading 48 = .ok (.invokevirtual 79, 3) := by decide +kernel
theorem dX1_markLeading_51 : decode cX1_markLeading 51 = .ok (.ifCond .eq 7, 3) := by decide +kernel
theorem dX1_markLeading_54 : decode cX1_markLeading 54 = .ok (.iconst 1, 1) := by decide +kernel
theorem dX1_markLeading_55 : decode cX1_markLeading 55 = .ok (.goto 4, 3) := by decide +kernel
theorem dX1_markLeading_58 : decode cX1_markLeading 58 = .ok (.iconst 0, 1) := by decide +kernel
theorem dX1_markLeading_59 : decode cX1_markLeading 59 = .ok (.bastore, 1) := by decide +kernel
theorem dX1_markLeading_60 : decode cX1_markLeading 60 = .ok (.iinc 2 (-1), 3) := by decide +kernel
theorem dX1_markLeading_63 : decode cX1_markLeading 63 = .ok (.goto (-59), 3) := by decide +kernel
theorem dX1_markLeading_66 : decode cX1_markLeading 66 = .ok (.return_, 1) := by decide +kernel
theorem dX1_leastStep_0 : decode cX1_leastStep 0 = .ok (.iconst 0, 1) := by decide +kernel
theorem dX1_leastStep_1 : decode cX1_leastStep 1 = .ok (.istore_n 3, 1) := by decide +kernel
theorem dX1_leastStep_2 : decode cX1_leastStep 2 = .ok (.iload_n 3, 1) := by decide +kernel
theorem dX1_leastStep_3 : decode cX1_leastStep 3 = .ok (.bipush 8, 2) := by decide +kernel
theorem dX1_leastStep_5 : decode cX1_leastStep 5 = .ok (.if_icmp .ge 37, 3) := by decide +kernel
theorem dX1_leastStep_8 : decode cX1_leastStep 8 = .ok (.iload_n 2, 1) := by decide +kernel
theorem dX1_leastStep_9 : decode cX1_leastStep 9 = .ok (.iload_n 1, 1) := by decide +kernel
theorem dX1_leastStep_10 : decode cX1_leastStep 10 = .ok (.iconst (-1), 1) := by decide +kernel
theorem dX1_leastStep_11 : decode cX1_leastStep 11 = .ok (.ixor, 1) := by decide +kernel
theorem dX1_leastStep_12 : decode cX1_leastStep 12 = .ok (.iand, 1) := by decide +kernel
theorem dX1_leastStep_13 : decode cX1_leastStep 13 = .ok (.iload_n 3, 1) := by decide +kernel
theorem dX1_leastStep_14 : decode cX1_leastStep 14 = .ok (.invokestatic 75, 3) := by decide +kernel
theorem dX1_leastStep_17 : decode cX1_leastStep 17 = .ok (.ifCond .eq 19, 3) := by decide +kernel
theorem dX1_leastStep_20 : decode cX1_leastStep 20 = .ok (.aload_n 0, 1) := by decide +kernel
theorem dX1_leastStep_21 : decode cX1_leastStep 21 = .ok (.getfield 42, 3) := by decide +kernel
theorem dX1_leastStep_24 : decode cX1_leastStep 24 = .ok (.iload_n 1, 1) := by decide +kernel
theorem dX1_leastStep_25 : decode cX1_leastStep 25 = .ok (.iload_n 3, 1) := by decide +kernel
theorem dX1_leastStep_26 : decode cX1_leastStep 26 = .ok (.iconst 1, 1) := by decide +kernel
theorem dX1_leastStep_27 : decode cX1_leastStep 27 = .ok (.invokestatic 71, 3) := by decide +kernel
theorem dX1_leastStep_30 : decode cX1_leastStep 30 = .ok (.baload, 1) := by decide +kernel
theorem dX1_leastStep_31 : decode cX1_leastStep 31 = .ok (.ifCond .eq 5, 3) := by decide +kernel
theorem dX1_leastStep_34 : decode cX1_leastStep 34 = .ok (.iload_n 3, 1) := by decide +kernel
theorem dX1_leastStep_35 : decode cX1_leastStep 35 = .ok (.ireturn, 1) := by decide +kernel
theorem dX1_leastStep_36 : decode cX1_leastStep 36 = .ok (.iinc 3 1, 3) := by decide +kernel
theorem dX1_leastStep_39 : decode cX1_leastStep 39 = .ok (.goto (-37), 3) := by decide +kernel
theorem dX1_leastStep_42 : decode cX1_leastStep 42 = .ok (.iconst (-1), 1) := by decide +kernel
theorem dX1_leastStep_43 : decode cX1_leastStep 43 = .ok (.ireturn, 1) := by decide +kernel
theorem dX1_stepOfWay_0 : decode cX1_stepOfWay 0 = .ok (.iconst 0, 1) := by decide +kernel
theorem dX1_stepOfWay_1 : decode cX1_stepOfWay 1 = .ok (.istore_n 3, 1) := by decide +kernel
theorem dX1_stepOfWay_2 : decode cX1_stepOfWay 2 = .ok (.aload_n 0, 1) := by decide +kernel
theorem dX1_stepOfWay_3 : decode cX1_stepOfWay 3 = .ok (.getfield 42, 3) := by decide +kernel
theorem dX1_stepOfWay_6 : decode cX1_stepOfWay 6 = .ok (.iconst 0, 1) := by decide +kernel
theorem dX1_stepOfWay_7 : decode cX1_stepOfWay 7 = .ok (.baload, 1) := by decide +kernel
theorem dX1_stepOfWay_8 : decode cX1_stepOfWay 8 = .ok (.ifCond .eq 12, 3) := by decide +kernel
theorem dX1_stepOfWay_11 : decode cX1_stepOfWay 11 = .ok (.aload_n 0, 1) := by decide +kernel
theorem dX1_stepOfWay_12 : decode cX1_stepOfWay 12 = .ok (.iconst 0, 1) := by decide +kernel
theorem dX1_stepOfWay_13 : decode cX1_stepOfWay 13 = .ok (.iload_n 1, 1) := by decide +kernel
theorem dX1_stepOfWay_14 : decode cX1_stepOfWay 14 = .ok (.invokevirtual 104, 3) := by decide +kernel
theorem dX1_stepOfWay_17 : decode cX1_stepOfWay 17 = .ok (.goto 4, 3) := by decide +kernel
theorem dX1_stepOfWay_20 : decode cX1_stepOfWay 20 = .ok (.iconst (-1), 1) := by decide +kernel
theorem dX1_stepOfWay_21 : decode cX1_stepOfWay 21 = .ok (.istore 4, 2) := by decide +kernel
theorem dX1_stepOfWay_23 : decode cX1_stepOfWay 23 = .ok (.iconst 0, 1) := by decide +kernel
theorem dX1_stepOfWay_24 : decode cX1_stepOfWay 24 = .ok (.istore 5, 2) := by decide +kernel
theorem dX1_stepOfWay_26 : decode cX1_stepOfWay 26 = .ok (.iload 5, 2) := by decide +kernel
theorem dX1_stepOfWay_28 : decode cX1_stepOfWay 28 = .ok (.iload_n 2, 1) := by decide +kernel
theorem dX1_stepOfWay_29 : decode cX1_stepOfWay 29 = .ok (.if_icmp .ge 31, 3) := by decide +kernel
theorem dX1_stepOfWay_32 : decode cX1_stepOfWay 32 = .ok (.iload 4, 2) := by decide +kernel
theorem dX1_stepOfWay_34 : decode cX1_stepOfWay 34 = .ok (.iconst (-1), 1) := by decide +kernel
theorem dX1_stepOfWay_35 : decode cX1_stepOfWay 35 = .ok (.if_icmp .eq 25, 3) := by decide +kernel
theorem dX1_stepOfWay_38 : decode cX1_stepOfWay 38 = .ok (.iload_n 3, 1) := by decide +kernel
theorem dX1_stepOfWay_39 : decode cX1_stepOfWay 39 = .ok (.iload 4, 2) := by decide +kernel
theorem dX1_stepOfWay_41 : decode cX1_stepOfWay 41 = .ok (.iconst 1, 1) := by decide +kernel
theorem dX1_stepOfWay_42 : decode cX1_stepOfWay 42 = .ok (.invokestatic 71, 3) := by decide +kernel
theorem dX1_stepOfWay_45 : decode cX1_stepOfWay 45 = .ok (.istore_n 3, 1) := by decide +kernel
theorem dX1_stepOfWay_46 : decode cX1_stepOfWay 46 = .ok (.aload_n 0, 1) := by decide +kernel
theorem dX1_stepOfWay_47 : decode cX1_stepOfWay 47 = .ok (.iload_n 3, 1) := by decide +kernel
theorem dX1_stepOfWay_48 : decode cX1_stepOfWay 48 = .ok (.iload_n 1, 1) := by decide +kernel
theorem dX1_stepOfWay_49 : decode cX1_stepOfWay 49 = .ok (.invokevirtual 104, 3) := by decide +kernel
theorem dX1_stepOfWay_52 : decode cX1_stepOfWay 52 = .ok (.istore 4, 2) := by decide +kernel
theorem dX1_stepOfWay_54 : decode cX1_stepOfWay 54 = .ok (.iinc 5 1, 3) := by decide +kernel
theorem dX1_stepOfWay_57 : decode cX1_stepOfWay 57 = .ok (.goto (-31), 3) := by decide +kernel
theorem dX1_stepOfWay_60 : decode cX1_stepOfWay 60 = .ok (.iload 4, 2) := by decide +kernel
theorem dX1_stepOfWay_62 : decode cX1_stepOfWay 62 = .ok (.ireturn, 1) := by decide +kernel
theorem dX2_init_0 : decode cX2_init 0 = .ok (.aload_n 0, 1) := by decide +kernel
theorem dX2_init_1 : decode cX2_init 1 = .ok (.iconst 3, 1) := by decide +kernel
theorem dX2_init_2 : decode cX2_init 2 = .ok (.iload_n 1, 1) := by decide +kernel
theorem dX2_init_3 : decode cX2_init 3 = .ok (.aload_n 2, 1) := by decide +kernel
theorem dX2_init_4 : decode cX2_init 4 = .ok (.iload 4, 2) := by decide +kernel
theorem dX2_init_6 : decode cX2_init 6 = .ok (.iload 5, 2) := by decide +kernel
theorem dX2_init_8 : decode cX2_init 8 = .ok (.iload 6, 2) := by decide +kernel
theorem dX2_init_10 : decode cX2_init 10 = .ok (.iload 7, 2) := by decide +kernel
theorem dX2_init_12 : decode cX2_init 12 = .ok (.invokespecial 3, 3) := by decide +kernel
theorem dX2_init_15 : decode cX2_init 15 = .ok (.aload_n 0, 1) := by decide +kernel
theorem dX2_init_16 : decode cX2_init 16 = .ok (.iload_n 3, 1) := by decide +kernel
theorem dX2_init_17 : decode cX2_init 17 = .ok (.putfield 9, 3) := by decide +kernel
theorem dX2_init_20 : decode cX2_init 20 = .ok (.return_, 1) := by decide +kernel
theorem dX2_tell_0 : decode cX2_tell 0 = .ok (.bipush 40, 2) := by decide +kernel
theorem dX2_tell_2 : decode cX2_tell 2 = .ok (.aload_n 2, 1) := by decide +kernel
theorem dX2_tell_3 : decode cX2_tell 3 = .ok (.invokestatic 15, 3) := by decide +kernel
theorem dX2_tell_6 : decode cX2_tell 6 = .ok (.aload_n 0, 1) := by decide +kernel
theorem dX2_tell_7 : decode cX2_tell 7 = .ok (.iload_n 1, 1) := by decide +kernel
theorem dX2_tell_8 : decode cX2_tell 8 = .ok (.aload_n 2, 1) := by decide +kernel
theorem dX2_tell_9 : decode cX2_tell 9 = .ok (.invokevirtual 19, 3) := by decide +kernel
theorem dX2_tell_12 : decode cX2_tell 12 = .ok (.aload_n 0, 1) := by decide +kernel
theorem dX2_tell_13 : decode cX2_tell 13 = .ok (.iload_n 1, 1) := by decide +kernel
theorem dX2_tell_14 : decode cX2_tell 14 = .ok (.iconst 1, 1) := by decide +kernel
theorem dX2_tell_15 : decode cX2_tell 15 = .ok (.iadd, 1) := by decide +kernel
theorem dX2_tell_16 : decode cX2_tell 16 = .ok (.aload_n 2, 1) := by decide +kernel
theorem dX2_tell_17 : decode cX2_tell 17 = .ok (.invokespecial 23, 3) := by decide +kernel
theorem dX2_tell_20 : decode cX2_tell 20 = .ok (.isub, 1) := by decide +kernel
theorem dX2_tell_21 : decode cX2_tell 21 = .ok (.ireturn, 1) := by decide +kernel
theorem dX3_init_0 : decode cX3_init 0 = .ok (.aload_n 0, 1) := by decide +kernel
theorem dX3_init_1 : decode cX3_init 1 = .ok (.iconst 4, 1) := by decide +kernel
theorem dX3_init_2 : decode cX3_init 2 = .ok (.iload_n 1, 1) := by decide +kernel
theorem dX3_init_3 : decode cX3_init 3 = .ok (.aload_n 2, 1) := by decide +kernel
theorem dX3_init_4 : decode cX3_init 4 = .ok (.iload_n 3, 1) := by decide +kernel
theorem dX3_init_5 : decode cX3_init 5 = .ok (.iload 4, 2) := by decide +kernel
theorem dX3_init_7 : decode cX3_init 7 = .ok (.iconst 0, 1) := by decide +kernel
theorem dX3_init_8 : decode cX3_init 8 = .ok (.iconst (-1), 1) := by decide +kernel
theorem dX3_init_9 : decode cX3_init 9 = .ok (.invokespecial 3, 3) := by decide +kernel
theorem dX3_init_12 : decode cX3_init 12 = .ok (.return_, 1) := by decide +kernel
theorem dX3_open_0 : decode cX3_open 0 = .ok (.bipush 50, 2) := by decide +kernel
theorem dX3_open_2 : decode cX3_open 2 = .ok (.aload_n 2, 1) := by decide +kernel
theorem dX3_open_3 : decode cX3_open 3 = .ok (.invokestatic 9, 3) := by decide +kernel
theorem dX3_open_6 : decode cX3_open 6 = .ok (.aload_n 0, 1) := by decide +kernel
theorem dX3_open_7 : decode cX3_open 7 = .ok (.iload_n 1, 1) := by decide +kernel
theorem dX3_open_8 : decode cX3_open 8 = .ok (.aload_n 2, 1) := by decide +kernel
theorem dX3_open_9 : decode cX3_open 9 = .ok (.invokespecial 15, 3) := by decide +kernel
theorem dX3_open_12 : decode cX3_open 12 = .ok (.iconst 3, 1) := by decide +kernel
theorem dX3_open_13 : decode cX3_open 13 = .ok (.imul, 1) := by decide +kernel
theorem dX3_open_14 : decode cX3_open 14 = .ok (.ireturn, 1) := by decide +kernel
theorem dX4_init_0 : decode cX4_init 0 = .ok (.aload_n 0, 1) := by decide +kernel
theorem dX4_init_1 : decode cX4_init 1 = .ok (.iload_n 1, 1) := by decide +kernel
theorem dX4_init_2 : decode cX4_init 2 = .ok (.iload_n 2, 1) := by decide +kernel
theorem dX4_init_3 : decode cX4_init 3 = .ok (.aload_n 3, 1) := by decide +kernel
theorem dX4_init_4 : decode cX4_init 4 = .ok (.iload 4, 2) := by decide +kernel
theorem dX4_init_6 : decode cX4_init 6 = .ok (.iload 5, 2) := by decide +kernel
theorem dX4_init_8 : decode cX4_init 8 = .ok (.iconst 0, 1) := by decide +kernel
theorem dX4_init_9 : decode cX4_init 9 = .ok (.iconst (-1), 1) := by decide +kernel
theorem dX4_init_10 : decode cX4_init 10 = .ok (.invokespecial 3, 3) := by decide +kernel
theorem dX4_init_13 : decode cX4_init 13 = .ok (.return_, 1) := by decide +kernel
theorem dX4_open_0 : decode cX4_open 0 = .ok (.bipush 60, 2) := by decide +kernel
theorem dX4_open_2 : decode cX4_open 2 = .ok (.aload_n 2, 1) := by decide +kernel
theorem dX4_open_3 : decode cX4_open 3 = .ok (.invokestatic 9, 3) := by decide +kernel
theorem dX4_open_6 : decode cX4_open 6 = .ok (.aload_n 0, 1) := by decide +kernel
theorem dX4_open_7 : decode cX4_open 7 = .ok (.iload_n 1, 1) := by decide +kernel
theorem dX4_open_8 : decode cX4_open 8 = .ok (.aload_n 2, 1) := by decide +kernel
theorem dX4_open_9 : decode cX4_open 9 = .ok (.invokespecial 15, 3) := by decide +kernel
theorem dX4_open_12 : decode cX4_open 12 = .ok (.aload_n 0, 1) := by decide +kernel
theorem dX4_open_13 : decode cX4_open 13 = .ok (.getfield 19, 3) := by decide +kernel
theorem dX4_open_16 : decode cX4_open 16 = .ok (.iadd, 1) := by decide +kernel
theorem dX4_open_17 : decode cX4_open 17 = .ok (.ireturn, 1) := by decide +kernel
theorem dX4_fit_0 : decode cX4_fit 0 = .ok (.bipush 61, 2) := by decide +kernel
theorem dX4_fit_2 : decode cX4_fit 2 = .ok (.aload_n 2, 1) := by decide +kernel
theorem dX4_fit_3 : decode cX4_fit 3 = .ok (.invokestatic 9, 3) := by decide +kernel
theorem dX4_fit_6 : decode cX4_fit 6 = .ok (.aload_n 0, 1) := by decide +kernel
theorem dX4_fit_7 : decode cX4_fit 7 = .ok (.iload_n 1, 1) := by decide +kernel
theorem dX4_fit_8 : decode cX4_fit 8 = .ok (.aload_n 0, 1) := by decide +kernel
theorem dX4_fit_9 : decode cX4_fit 9 = .ok (.getfield 23, 3) := by decide +kernel
theorem dX4_fit_12 : decode cX4_fit 12 = .ok (.isub, 1) := by decide +kernel
theorem dX4_fit_13 : decode cX4_fit 13 = .ok (.aload_n 2, 1) := by decide +kernel
theorem dX4_fit_14 : decode cX4_fit 14 = .ok (.invokespecial 26, 3) := by decide +kernel
theorem dX4_fit_17 : decode cX4_fit 17 = .ok (.ireturn, 1) := by decide +kernel
theorem dX5_init_0 : decode cX5_init 0 = .ok (.aload_n 0, 1) := by decide +kernel
theorem dX5_init_1 : decode cX5_init 1 = .ok (.invokespecial 3, 3) := by decide +kernel
theorem dX5_init_4 : decode cX5_init 4 = .ok (.aload_n 0, 1) := by decide +kernel
theorem dX5_init_5 : decode cX5_init 5 = .ok (.bipush 10, 2) := by decide +kernel
theorem dX5_init_7 : decode cX5_init 7 = .ok (.newarray .long, 2) := by decide +kernel
theorem dX5_init_9 : decode cX5_init 9 = .ok (.putfield 9, 3) := by decide +kernel
theorem dX5_init_12 : decode cX5_init 12 = .ok (.aload_n 0, 1) := by decide +kernel
theorem dX5_init_13 : decode cX5_init 13 = .ok (.bipush 30, 2) := by decide +kernel
theorem dX5_init_15 : decode cX5_init 15 = .ok (.newarray .long, 2) := by decide +kernel
theorem dX5_init_17 : decode cX5_init 17 = .ok (.putfield 15, 3) := by decide +kernel
theorem dX5_init_20 : decode cX5_init 20 = .ok (.aload_n 0, 1) := by decide +kernel
theorem dX5_init_21 : decode cX5_init 21 = .ok (.bipush 30, 2) := by decide +kernel
theorem dX5_init_23 : decode cX5_init 23 = .ok (.newarray .int, 2) := by decide +kernel
theorem dX5_init_25 : decode cX5_init 25 = .ok (.putfield 18, 3) := by decide +kernel
theorem dX5_init_28 : decode cX5_init 28 = .ok (.aload_n 0, 1) := by decide +kernel
theorem dX5_init_29 : decode cX5_init 29 = .ok (.bipush 30, 2) := by decide +kernel
theorem dX5_init_31 : decode cX5_init 31 = .ok (.newarray .int, 2) := by decide +kernel
theorem dX5_init_33 : decode cX5_init 33 = .ok (.putfield 22, 3) := by decide +kernel
theorem dX5_init_36 : decode cX5_init 36 = .ok (.aload_n 0, 1) := by decide +kernel
theorem dX5_init_37 : decode cX5_init 37 = .ok (.iconst 0, 1) := by decide +kernel
theorem dX5_init_38 : decode cX5_init 38 = .ok (.putfield 25, 3) := by decide +kernel
theorem dX5_init_41 : decode cX5_init 41 = .ok (.aload_n 0, 1) := by decide +kernel
theorem dX5_init_42 : decode cX5_init 42 = .ok (.iconst 0, 1) := by decide +kernel
theorem dX5_init_43 : decode cX5_init 43 = .ok (.putfield 29, 3) := by decide +kernel
theorem dX5_init_46 : decode cX5_init 46 = .ok (.aload_n 0, 1) := by decide +kernel
theorem dX5_init_47 : decode cX5_init 47 = .ok (.iconst 0, 1) := by decide +kernel
theorem dX5_init_48 : decode cX5_init 48 = .ok (.putfield 32, 3) := by decide +kernel
theorem dX5_init_51 : decode cX5_init 51 = .ok (.aload_n 0, 1) := by decide +kernel
theorem dX5_init_52 : decode cX5_init 52 = .ok (.bipush 10, 2) := by decide +kernel
theorem dX5_init_54 : decode cX5_init 54 = .ok (.newarray .int, 2) := by decide +kernel
theorem dX5_init_56 : decode cX5_init 56 = .ok (.putfield 35, 3) := by decide +kernel
theorem dX5_init_59 : decode cX5_init 59 = .ok (.aload_n 0, 1) := by decide +kernel
theorem dX5_init_60 : decode cX5_init 60 = .ok (.bipush 30, 2) := by decide +kernel
theorem dX5_init_62 : decode cX5_init 62 = .ok (.newarray .int, 2) := by decide +kernel
theorem dX5_init_64 : decode cX5_init 64 = .ok (.putfield 38, 3) := by decide +kernel
theorem dX5_init_67 : decode cX5_init 67 = .ok (.aload_n 0, 1) := by decide +kernel
theorem dX5_init_68 : decode cX5_init 68 = .ok (.bipush 11, 2) := by decide +kernel
theorem dX5_init_70 : decode cX5_init 70 = .ok (.newarray .int, 2) := by decide +kernel
theorem dX5_init_72 : decode cX5_init 72 = .ok (.putfield 41, 3) := by decide +kernel
theorem dX5_init_75 : decode cX5_init 75 = .ok (.aload_n 0, 1) := by decide +kernel
theorem dX5_init_76 : decode cX5_init 76 = .ok (.bipush 30, 2) := by decide +kernel
theorem dX5_init_78 : decode cX5_init 78 = .ok (.anewarray 44, 3) := by decide +kernel
theorem dX5_init_81 : decode cX5_init 81 = .ok (.putfield 46, 3) := by decide +kernel
theorem dX5_init_84 : decode cX5_init 84 = .ok (.aload_n 0, 1) := by decide +kernel
theorem dX5_init_85 : decode cX5_init 85 = .ok (.iconst 0, 1) := by decide +kernel
theorem dX5_init_86 : decode cX5_init 86 = .ok (.putfield 50, 3) := by decide +kernel
theorem dX5_init_89 : decode cX5_init 89 = .ok (.aload_n 0, 1) := by decide +kernel
theorem dX5_init_90 : decode cX5_init 90 = .ok (.bipush 21, 2) := by decide +kernel
theorem dX5_init_92 : decode cX5_init 92 = .ok (.newarray .int, 2) := by decide +kernel
theorem dX5_init_94 : decode cX5_init 94 = .ok (.putfield 53, 3) := by decide +kernel
theorem dX5_init_97 : decode cX5_init 97 = .ok (.aload_n 0, 1) := by decide +kernel
theorem dX5_init_98 : decode cX5_init 98 = .ok (.bipush 6, 2) := by decide +kernel
theorem dX5_init_100 : decode cX5_init 100 = .ok (.newarray .int, 2) := by decide +kernel
theorem dX5_init_102 : decode cX5_init 102 = .ok (.putfield 56, 3) := by decide +kernel
theorem dX5_init_105 : decode cX5_init 105 = .ok (.aload_n 0, 1) := by decide +kernel
theorem dX5_init_106 : decode cX5_init 106 = .ok (.bipush 6, 2) := by decide +kernel
theorem dX5_init_108 : decode cX5_init 108 = .ok (.newarray .int, 2) := by decide +kernel
theorem dX5_init_110 : decode cX5_init 110 = .ok (.putfield 59, 3) := by decide +kernel
theorem dX5_init_113 : decode cX5_init 113 = .ok (.return_, 1) := by decide +kernel
theorem dX5_arrange_0 : decode cX5_arrange 0 = .ok (.iconst 0, 1) := by decide +kernel
theorem dX5_arrange_1 : decode cX5_arrange 1 = .ok (.istore_n 2, 1) := by decide +kernel
theorem dX5_arrange_2 : decode cX5_arrange 2 = .ok (.iconst 0, 1) := by decide +kernel
theorem dX5_arrange_3 : decode cX5_arrange 3 = .ok (.istore_n 3, 1) := by decide +kernel
theorem dX5_arrange_4 : decode cX5_arrange 4 = .ok (.iconst 0, 1) := by decide +kernel
theorem dX5_arrange_5 : decode cX5_arrange 5 = .ok (.istore 4, 2) := by decide +kernel
theorem dX5_arrange_7 : decode cX5_arrange 7 = .ok (.iload 4, 2) := by decide +kernel
theorem dX5_arrange_9 : decode cX5_arrange 9 = .ok (.aload_n 1, 1) := by decide +kernel
theorem dX5_arrange_10 : decode cX5_arrange 10 = .ok (.getfield 62, 3) := by decide +kernel
theorem dX5_arrange_13 : decode cX5_arrange 13 = .ok (.if_icmp .ge 69, 3) := by decide +kernel
theorem dX5_arrange_16 : decode cX5_arrange 16 = .ok (.iconst 0, 1) := by decide +kernel
theorem dX5_arrange_17 : decode cX5_arrange 17 = .ok (.istore 5, 2) := by decide +kernel
theorem dX5_arrange_19 : decode cX5_arrange 19 = .ok (.iload 5, 2) := by decide +kernel
theorem dX5_arrange_21 : decode cX5_arrange 21 = .ok (.aload_n 1, 1) := by decide +kernel
theorem dX5_arrange_22 : decode cX5_arrange 22 = .ok (.getfield 62, 3) := by decide +kernel
theorem dX5_arrange_25 : decode cX5_arrange 25 = .ok (.if_icmp .ge 51, 3) := by decide +kernel
theorem dX5_arrange_28 : decode cX5_arrange 28 = .ok (.aload_n 1, 1) := by decide +kernel
theorem dX5_arrange_29 : decode cX5_arrange 29 = .ok (.getfield 67, 3) := by decide +kernel
theorem dX5_arrange_32 : decode cX5_arrange 32 = .ok (.iload 5, 2) := by decide +kernel
theorem dX5_arrange_34 : decode cX5_arrange 34 = .ok (.iaload, 1) := by decide +kernel
theorem dX5_arrange_35 : decode cX5_arrange 35 = .ok (.invokestatic 70, 3) := by decide +kernel
theorem dX5_arrange_38 : decode cX5_arrange 38 = .ok (.iload 4, 2) := by decide +kernel
theorem dX5_arrange_40 : decode cX5_arrange 40 = .ok (.if_icmp .ne 30, 3) := by decide +kernel
theorem dX5_arrange_43 : decode cX5_arrange 43 = .ok (.aload_n 0, 1) := by decide +kernel
theorem dX5_arrange_44 : decode cX5_arrange 44 = .ok (.getfield 35, 3) := by decide +kernel
theorem dX5_arrange_47 : decode cX5_arrange 47 = .ok (.iload_n 2, 1) := by decide +kernel
theorem dX5_arrange_48 : decode cX5_arrange 48 = .ok (.iload 5, 2) := by decide +kernel
theorem dX5_arrange_50 : decode cX5_arrange 50 = .ok (.iastore, 1) := by decide +kernel
theorem dX5_arrange_51 : decode cX5_arrange 51 = .ok (.iinc 2 1, 3) := by decide +kernel
theorem dX5_arrange_54 : decode cX5_arrange 54 = .ok (.aload_n 0, 1) := by decide +kernel
theorem dX5_arrange_55 : decode cX5_arrange 55 = .ok (.aload_n 1, 1) := by decide +kernel
theorem dX5_arrange_56 : decode cX5_arrange 56 = .ok (.iload 5, 2) := by decide +kernel
theorem dX5_arrange_58 : decode cX5_arrange 58 = .ok (.iload_n 3, 1) := by decide +kernel
theorem dX5_arrange_59 : decode cX5_arrange 59 = .ok (.invokevirtual 76, 3) := by decide +kernel
theorem dX5_arrange_62 : decode cX5_arrange 62 = .ok (.istore_n 3, 1) := by decide +kernel
theorem dX5_arrange_63 : decode cX5_arrange 63 = .ok (.aload_n 0, 1) := by decide +kernel
theorem dX5_arrange_64 : decode cX5_arrange 64 = .ok (.getfield 41, 3) := by decide +kernel
theorem dX5_arrange_67 : decode cX5_arrange 67 = .ok (.iload_n 2, 1) := by decide +kernel
theorem dX5_arrange_68 : decode cX5_arrange 68 = .ok (.iload_n 3, 1) := by decide +kernel
theorem dX5_arrange_69 : decode cX5_arrange 69 = .ok (.iastore, 1) := by decide +kernel
theorem dX5_arrange_70 : decode cX5_arrange 70 = .ok (.iinc 5 1, 3) := by decide +kernel
theorem dX5_arrange_73 : decode cX5_arrange 73 = .ok (.goto (-54), 3) := by decide +kernel
theorem dX5_arrange_76 : decode cX5_arrange 76 = .ok (.iinc 4 1, 3) := by decide +kernel
theorem dX5_arrange_79 : decode cX5_arrange 79 = .ok (.goto (-72), 3) := by decide +kernel
theorem dX5_arrange_82 : decode cX5_arrange 82 = .ok (.return_, 1) := by decide +kernel
theorem dX5_plannedWith_0 : decode cX5_plannedWith 0 = .ok (.iload_n 3, 1) := by decide +kernel
theorem dX5_plannedWith_1 : decode cX5_plannedWith 1 = .ok (.istore 4, 2) := by decide +kernel
theorem dX5_plannedWith_3 : decode cX5_plannedWith 3 = .ok (.iconst 0, 1) := by decide +kernel
theorem dX5_plannedWith_4 : decode cX5_plannedWith 4 = .ok (.istore 5, 2) := by decide +kernel
theorem dX5_plannedWith_6 : decode cX5_plannedWith 6 = .ok (.iload 5, 2) := by decide +kernel
theorem dX5_plannedWith_8 : decode cX5_plannedWith 8 = .ok (.aload_n 1, 1) := by decide +kernel
theorem dX5_plannedWith_9 : decode cX5_plannedWith 9 = .ok (.getfield 80, 3) := by decide +kernel
theorem dX5_plannedWith_12 : decode cX5_plannedWith 12 = .ok (.if_icmp .ge 35, 3) := by decide +kernel
theorem dX5_plannedWith_15 : decode cX5_plannedWith 15 = .ok (.aload_n 1, 1) := by decide +kernel
theorem dX5_plannedWith_16 : decode cX5_plannedWith 16 = .ok (.getfield 83, 3) := by decide +kernel
theorem dX5_plannedWith_19 : decode cX5_plannedWith 19 = .ok (.iload 5, 2) := by decide +kernel
theorem dX5_plannedWith_21 : decode cX5_plannedWith 21 = .ok (.aaload, 1) := by decide +kernel
theorem dX5_plannedWith_22 : decode cX5_plannedWith 22 = .ok (.getfield 86, 3) := by decide +kernel
theorem dX5_plannedWith_25 : decode cX5_plannedWith 25 = .ok (.iload_n 2, 1) := by decide +kernel
theorem dX5_plannedWith_26 : decode cX5_plannedWith 26 = .ok (.if_icmp .ne 15, 3) := by decide +kernel
theorem dX5_plannedWith_29 : decode cX5_plannedWith 29 = .ok (.aload_n 0, 1) := by decide +kernel
theorem dX5_plannedWith_30 : decode cX5_plannedWith 30 = .ok (.getfield 38, 3) := by decide +kernel
theorem dX5_plannedWith_33 : decode cX5_plannedWith 33 = .ok (.iload 4, 2) := by decide +kernel
theorem dX5_plannedWith_35 : decode cX5_plannedWith 35 = .ok (.iload 5, 2) := by decide +kernel
theorem dX5_plannedWith_37 : decode cX5_plannedWith 37 = .ok (.iastore, 1) := by decide +kernel
theorem dX5_plannedWith_38 : decode cX5_plannedWith 38 = .ok (.iinc 4 1, 3) := by decide +kernel
theorem dX5_plannedWith_41 : decode cX5_plannedWith 41 = .ok (.iinc 5 1, 3) := by decide +kernel
theorem dX5_plannedWith_44 : decode cX5_plannedWith 44 = .ok (.goto (-38), 3) := by decide +kernel
theorem dX5_plannedWith_47 : decode cX5_plannedWith 47 = .ok (.iload 4, 2) := by decide +kernel
theorem dX5_plannedWith_49 : decode cX5_plannedWith 49 = .ok (.ireturn, 1) := by decide +kernel
theorem dX5_reckon_0 : decode cX5_reckon 0 = .ok (.aload_n 0, 1) := by decide +kernel
theorem dX5_reckon_1 : decode cX5_reckon 1 = .ok (.aload_n 0, 1) := by decide +kernel
theorem dX5_reckon_2 : decode cX5_reckon 2 = .ok (.aload_n 1, 1) := by decide +kernel
theorem dX5_reckon_3 : decode cX5_reckon 3 = .ok (.iload_n 2, 1) := by decide +kernel
theorem dX5_reckon_4 : decode cX5_reckon 4 = .ok (.invokevirtual 89, 3) := by decide +kernel
theorem dX5_reckon_7 : decode cX5_reckon 7 = .ok (.putfield 25, 3) := by decide +kernel
theorem dX5_reckon_10 : decode cX5_reckon 10 = .ok (.aload_n 0, 1) := by decide +kernel
theorem dX5_reckon_11 : decode cX5_reckon 11 = .ok (.iconst 0, 1) := by decide +kernel
theorem dX5_reckon_12 : decode cX5_reckon 12 = .ok (.putfield 29, 3) := by decide +kernel
theorem dX5_reckon_15 : decode cX5_reckon 15 = .ok (.iconst 0, 1) := by decide +kernel
theorem dX5_reckon_16 : decode cX5_reckon 16 = .ok (.istore_n 3, 1) := by decide +kernel
theorem dX5_reckon_17 : decode cX5_reckon 17 = .ok (.iload_n 3, 1) := by decide +kernel
theorem dX5_reckon_18 : decode cX5_reckon 18 = .ok (.aload_n 1, 1) := by decide +kernel
theorem dX5_reckon_19 : decode cX5_reckon 19 = .ok (.getfield 62, 3) := by decide +kernel
theorem dX5_reckon_22 : decode cX5_reckon 22 = .ok (.if_icmp .ge 132, 3) := by decide +kernel
theorem dX5_reckon_25 : decode cX5_reckon 25 = .ok (.aload_n 0, 1) := by decide +kernel
theorem dX5_reckon_26 : decode cX5_reckon 26 = .ok (.getfield 35, 3) := by decide +kernel
theorem dX5_reckon_29 : decode cX5_reckon 29 = .ok (.iload_n 3, 1) := by decide +kernel
theorem dX5_reckon_30 : decode cX5_reckon 30 = .ok (.iaload, 1) := by decide +kernel
theorem dX5_reckon_31 : decode cX5_reckon 31 = .ok (.istore 4, 2) := by decide +kernel
theorem dX5_reckon_33 : decode cX5_reckon 33 = .ok (.aload_n 0, 1) := by decide +kernel
theorem dX5_reckon_34 : decode cX5_reckon 34 = .ok (.aload_n 1, 1) := by decide +kernel
theorem dX5_reckon_35 : decode cX5_reckon 35 = .ok (.iload_n 2, 1) := by decide +kernel
theorem dX5_reckon_36 : decode cX5_reckon 36 = .ok (.aload_n 0, 1) := by decide +kernel
theorem dX5_reckon_37 : decode cX5_reckon 37 = .ok (.getfield 41, 3) := by decide +kernel
theorem dX5_reckon_40 : decode cX5_reckon 40 = .ok (.iload_n 3, 1) := by decide +kernel
theorem dX5_reckon_41 : decode cX5_reckon 41 = .ok (.iaload, 1) := by decide +kernel
theorem dX5_reckon_42 : decode cX5_reckon 42 = .ok (.aload_n 0, 1) := by decide +kernel
theorem dX5_reckon_43 : decode cX5_reckon 43 = .ok (.getfield 41, 3) := by decide +kernel
theorem dX5_reckon_46 : decode cX5_reckon 46 = .ok (.iload_n 3, 1) := by decide +kernel
theorem dX5_reckon_47 : decode cX5_reckon 47 = .ok (.iconst 1, 1) := by decide +kernel
theorem dX5_reckon_48 : decode cX5_reckon 48 = .ok (.iadd, 1) := by decide +kernel
theorem dX5_reckon_49 : decode cX5_reckon 49 = .ok (.iaload, 1) := by decide +kernel
theorem dX5_reckon_50 : decode cX5_reckon 50 = .ok (.invokevirtual 93, 3) := by decide +kernel
theorem dX5_reckon_53 : decode cX5_reckon 53 = .ok (.aload_n 0, 1) := by decide +kernel
theorem dX5_reckon_54 : decode cX5_reckon 54 = .ok (.aload_n 1, 1) := by decide +kernel
theorem dX5_reckon_55 : decode cX5_reckon 55 = .ok (.iload 4, 2) := by decide +kernel
theorem dX5_reckon_57 : decode cX5_reckon 57 = .ok (.invokevirtual 97, 3) := by decide +kernel
theorem dX5_reckon_60 : decode cX5_reckon 60 = .ok (.lstore 5, 2) := by decide +kernel
theorem dX5_reckon_62 : decode cX5_reckon 62 = .ok (.aload_n 0, 1) := by decide +kernel
theorem dX5_reckon_63 : decode cX5_reckon 63 = .ok (.invokevirtual 101, 3) := by decide +kernel
theorem dX5_reckon_66 : decode cX5_reckon 66 = .ok (.aload_n 0, 1) := by decide +kernel
theorem dX5_reckon_67 : decode cX5_reckon 67 = .ok (.aload_n 1, 1) := by decide +kernel
theorem dX5_reckon_68 : decode cX5_reckon 68 = .ok (.invokevirtual 104, 3) := by decide +kernel
theorem dX5_reckon_71 : decode cX5_reckon 71 = .ok (.aload_n 0, 1) := by decide +kernel
theorem dX5_reckon_72 : decode cX5_reckon 72 = .ok (.lload 5, 2) := by decide +kernel
theorem dX5_reckon_74 : decode cX5_reckon 74 = .ok (.aload_n 0, 1) := by decide +kernel
theorem dX5_reckon_75 : decode cX5_reckon 75 = .ok (.invokevirtual 108, 3) := by decide +kernel
theorem dX5_reckon_78 : decode cX5_reckon 78 = .ok (.ladd, 1) := by decide +kernel
theorem dX5_reckon_79 : decode cX5_reckon 79 = .ok (.aload_n 1, 1) := by decide +kernel
theorem dX5_reckon_80 : decode cX5_reckon 80 = .ok (.iload 4, 2) := by decide +kernel
theorem dX5_reckon_82 : decode cX5_reckon 82 = .ok (.invokevirtual 112, 3) := by decide +kernel
theorem dX5_reckon_85 : decode cX5_reckon 85 = .ok (.ladd, 1) := by decide +kernel
theorem dX5_reckon_86 : decode cX5_reckon 86 = .ok (.invokevirtual 116, 3) := by decide +kernel
theorem dX5_reckon_89 : decode cX5_reckon 89 = .ok (.lstore 5, 2) := by decide +kernel
theorem dX5_reckon_91 : decode cX5_reckon 91 = .ok (.aload_n 1, 1) := by decide +kernel
theorem dX5_reckon_92 : decode cX5_reckon 92 = .ok (.getfield 120, 3) := by decide +kernel
theorem dX5_reckon_95 : decode cX5_reckon 95 = .ok (.iload 4, 2) := by decide +kernel
theorem dX5_reckon_97 : decode cX5_reckon 97 = .ok (.iaload, 1) := by decide +kernel
theorem dX5_reckon_98 : decode cX5_reckon 98 = .ok (.iconst 2, 1) := by decide +kernel
theorem dX5_reckon_99 : decode cX5_reckon 99 = .ok (.if_icmp .ne 19, 3) := by decide +kernel
theorem dX5_reckon_102 : decode cX5_reckon 102 = .ok (.lload 5, 2) := by decide +kernel
theorem dX5_reckon_104 : decode cX5_reckon 104 = .ok (.aload_n 1, 1) := by decide +kernel
theorem dX5_reckon_105 : decode cX5_reckon 105 = .ok (.getfield 123, 3) := by decide +kernel
theorem dX5_reckon_108 : decode cX5_reckon 108 = .ok (.iload 4, 2) := by decide +kernel
theorem dX5_reckon_110 : decode cX5_reckon 110 = .ok (.iaload, 1) := by decide +kernel
theorem dX5_reckon_111 : decode cX5_reckon 111 = .ok (.i2l, 1) := by decide +kernel
theorem dX5_reckon_112 : decode cX5_reckon 112 = .ok (.lsub, 1) := by decide +kernel
theorem dX5_reckon_113 : decode cX5_reckon 113 = .ok (.lstore 5, 2) := by decide +kernel
theorem dX5_reckon_115 : decode cX5_reckon 115 = .ok (.goto 24, 3) := by decide +kernel
theorem dX5_reckon_118 : decode cX5_reckon 118 = .ok (.aload_n 1, 1) := by decide +kernel
theorem dX5_reckon_119 : decode cX5_reckon 119 = .ok (.getfield 120, 3) := by decide +kernel
theorem dX5_reckon_122 : decode cX5_reckon 122 = .ok (.iload 4, 2) := by decide +kernel
theorem dX5_reckon_124 : decode cX5_reckon 124 = .ok (.iaload, 1) := by decide +kernel
theorem dX5_reckon_125 : decode cX5_reckon 125 = .ok (.iconst 4, 1) := by decide +kernel
theorem dX5_reckon_126 : decode cX5_reckon 126 = .ok (.if_icmp .ne 13, 3) := by decide +kernel
theorem dX5_reckon_129 : decode cX5_reckon 129 = .ok (.lload 5, 2) := by decide +kernel
theorem dX5_reckon_131 : decode cX5_reckon 131 = .ok (.lconst 0, 1) := by decide +kernel
theorem dX5_reckon_132 : decode cX5_reckon 132 = .ok (.lcmp, 1) := by decide +kernel
theorem dX5_reckon_133 : decode cX5_reckon 133 = .ok (.ifCond .eq 6, 3) := by decide +kernel
theorem dX5_reckon_136 : decode cX5_reckon 136 = .ok (.lconst 1, 1) := by decide +kernel
theorem dX5_reckon_137 : decode cX5_reckon 137 = .ok (.lstore 5, 2) := by decide +kernel
theorem dX5_reckon_139 : decode cX5_reckon 139 = .ok (.aload_n 0, 1) := by decide +kernel
theorem dX5_reckon_140 : decode cX5_reckon 140 = .ok (.getfield 9, 3) := by decide +kernel
theorem dX5_reckon_143 : decode cX5_reckon 143 = .ok (.iload 4, 2) := by decide +kernel
theorem dX5_reckon_145 : decode cX5_reckon 145 = .ok (.lload 5, 2) := by decide +kernel
theorem dX5_reckon_147 : decode cX5_reckon 147 = .ok (.lastore, 1) := by decide +kernel
theorem dX5_reckon_148 : decode cX5_reckon 148 = .ok (.iinc 3 1, 3) := by decide +kernel
theorem dX5_reckon_151 : decode cX5_reckon 151 = .ok (.goto (-134), 3) := by decide +kernel
theorem dX5_reckon_154 : decode cX5_reckon 154 = .ok (.aload_n 0, 1) := by decide +kernel
theorem dX5_reckon_155 : decode cX5_reckon 155 = .ok (.aload_n 0, 1) := by decide +kernel
theorem dX5_reckon_156 : decode cX5_reckon 156 = .ok (.aload_n 1, 1) := by decide +kernel
theorem dX5_reckon_157 : decode cX5_reckon 157 = .ok (.iload_n 2, 1) := by decide +kernel
theorem dX5_reckon_158 : decode cX5_reckon 158 = .ok (.invokevirtual 126, 3) := by decide +kernel
theorem dX5_reckon_161 : decode cX5_reckon 161 = .ok (.putfield 32, 3) := by decide +kernel
theorem dX5_reckon_164 : decode cX5_reckon 164 = .ok (.return_, 1) := by decide +kernel
theorem dX5_thereOn_0 : decode cX5_thereOn 0 = .ok (.iconst 1, 1) := by decide +kernel
theorem dX5_thereOn_1 : decode cX5_thereOn 1 = .ok (.aload_n 1, 1) := by decide +kernel
theorem dX5_thereOn_2 : decode cX5_thereOn 2 = .ok (.getfield 80, 3) := by decide +kernel
theorem dX5_thereOn_5 : decode cX5_thereOn 5 = .ok (.ishl, 1) := by decide +kernel
theorem dX5_thereOn_6 : decode cX5_thereOn 6 = .ok (.iconst 1, 1) := by decide +kernel
theorem dX5_thereOn_7 : decode cX5_thereOn 7 = .ok (.isub, 1) := by decide +kernel
theorem dX5_thereOn_8 : decode cX5_thereOn 8 = .ok (.istore_n 3, 1) := by decide +kernel
theorem dX5_thereOn_9 : decode cX5_thereOn 9 = .ok (.aload_n 1, 1) := by decide +kernel
theorem dX5_thereOn_10 : decode cX5_thereOn 10 = .ok (.getfield 80, 3) := by decide +kernel
theorem dX5_thereOn_13 : decode cX5_thereOn 13 = .ok (.iconst 1, 1) := by decide +kernel
theorem dX5_thereOn_14 : decode cX5_thereOn 14 = .ok (.isub, 1) := by decide +kernel
theorem dX5_thereOn_15 : decode cX5_thereOn 15 = .ok (.istore 4, 2) := by decide +kernel
theorem dX5_thereOn_17 : decode cX5_thereOn 17 = .ok (.iload 4, 2) := by decide +kernel
theorem dX5_thereOn_19 : decode cX5_thereOn 19 = .ok (.ifCond .lt 64, 3) := by decide +kernel
theorem dX5_thereOn_22 : decode cX5_thereOn 22 = .ok (.aload_n 1, 1) := by decide +kernel
theorem dX5_thereOn_23 : decode cX5_thereOn 23 = .ok (.getfield 83, 3) := by decide +kernel
theorem dX5_thereOn_26 : decode cX5_thereOn 26 = .ok (.iload 4, 2) := by decide +kernel
theorem dX5_thereOn_28 : decode cX5_thereOn 28 = .ok (.aaload, 1) := by decide +kernel
theorem dX5_thereOn_29 : decode cX5_thereOn 29 = .ok (.astore 5, 2) := by decide +kernel
theorem dX5_thereOn_31 : decode cX5_thereOn 31 = .ok (.aload 5, 2) := by decide +kernel
theorem dX5_thereOn_33 : decode cX5_thereOn 33 = .ok (.getfield 129, 3) := by decide +kernel
theorem dX5_thereOn_36 : decode cX5_thereOn 36 = .ok (.iconst 4, 1) := by decide +kernel
theorem dX5_thereOn_37 : decode cX5_thereOn 37 = .ok (.if_icmp .ne 40, 3) := by decide +kernel
theorem dX5_thereOn_40 : decode cX5_thereOn 40 = .ok (.iload_n 3, 1) := by decide +kernel
theorem dX5_thereOn_41 : decode cX5_thereOn 41 = .ok (.iload 4, 2) := by decide +kernel
theorem dX5_thereOn_43 : decode cX5_thereOn 43 = .ok (.invokestatic 132, 3) := by decide +kernel
theorem dX5_thereOn_46 : decode cX5_thereOn 46 = .ok (.ifCond .eq 31, 3) := by decide +kernel
theorem dX5_thereOn_49 : decode cX5_thereOn 49 = .ok (.aload 5, 2) := by decide +kernel
theorem dX5_thereOn_51 : decode cX5_thereOn 51 = .ok (.getfield 136, 3) := by decide +kernel
theorem dX5_thereOn_54 : decode cX5_thereOn 54 = .ok (.iload_n 2, 1) := by decide +kernel
theorem dX5_thereOn_55 : decode cX5_thereOn 55 = .ok (.aload_n 0, 1) := by decide +kernel
theorem dX5_thereOn_56 : decode cX5_thereOn 56 = .ok (.getfield 9, 3) := by decide +kernel
theorem dX5_thereOn_59 : decode cX5_thereOn 59 = .ok (.invokevirtual 140, 3) := by decide +kernel
theorem dX5_thereOn_62 : decode cX5_thereOn 62 = .ok (.ifCond .eq 15, 3) := by decide +kernel
theorem dX5_thereOn_65 : decode cX5_thereOn 65 = .ok (.iload_n 3, 1) := by decide +kernel
theorem dX5_thereOn_66 : decode cX5_thereOn 66 = .ok (.iconst 1, 1) := by decide +kernel
theorem dX5_thereOn_67 : decode cX5_thereOn 67 = .ok (.aload 5, 2) := by decide +kernel
theorem dX5_thereOn_69 : decode cX5_thereOn 69 = .ok (.getfield 146, 3) := by decide +kernel
theorem dX5_thereOn_72 : decode cX5_thereOn 72 = .ok (.ishl, 1) := by decide +kernel
theorem dX5_thereOn_73 : decode cX5_thereOn 73 = .ok (.iconst (-1), 1) := by decide +kernel
theorem dX5_thereOn_74 : decode cX5_thereOn 74 = .ok (.ixor, 1) := by decide +kernel
theorem dX5_thereOn_75 : decode cX5_thereOn 75 = .ok (.iand, 1) := by decide +kernel
theorem dX5_thereOn_76 : decode cX5_thereOn 76 = .ok (.istore_n 3, 1) := by decide +kernel
theorem dX5_thereOn_77 : decode cX5_thereOn 77 = .ok (.iinc 4 (-1), 3) := by decide +kernel
theorem dX5_thereOn_80 : decode cX5_thereOn 80 = .ok (.goto (-63), 3) := by decide +kernel
theorem dX5_thereOn_83 : decode cX5_thereOn 83 = .ok (.iload_n 3, 1) := by decide +kernel
theorem dX5_thereOn_84 : decode cX5_thereOn 84 = .ok (.ireturn, 1) := by decide +kernel
theorem dX5_gather_0 : decode cX5_gather 0 = .ok (.aload_n 0, 1) := by decide +kernel
theorem dX5_gather_1 : decode cX5_gather 1 = .ok (.iconst 0, 1) := by decide +kernel
theorem dX5_gather_2 : decode cX5_gather 2 = .ok (.putfield 50, 3) := by decide +kernel
theorem dX5_gather_5 : decode cX5_gather 5 = .ok (.iload_n 3, 1) := by decide +kernel
theorem dX5_gather_6 : decode cX5_gather 6 = .ok (.istore 5, 2) := by decide +kernel
theorem dX5_gather_8 : decode cX5_gather 8 = .ok (.iload 5, 2) := by decide +kernel
theorem dX5_gather_10 : decode cX5_gather 10 = .ok (.iload 4, 2) := by decide +kernel
theorem dX5_gather_12 : decode cX5_gather 12 = .ok (.if_icmp .ge 130, 3) := by decide +kernel
theorem dX5_gather_15 : decode cX5_gather 15 = .ok (.aload_n 0, 1) := by decide +kernel
theorem dX5_gather_16 : decode cX5_gather 16 = .ok (.getfield 38, 3) := by decide +kernel
theorem dX5_gather_19 : decode cX5_gather 19 = .ok (.iload 5, 2) := by decide +kernel
theorem dX5_gather_21 : decode cX5_gather 21 = .ok (.iaload, 1) := by decide +kernel
theorem dX5_gather_22 : decode cX5_gather 22 = .ok (.istore 6, 2) := by decide +kernel
theorem dX5_gather_24 : decode cX5_gather 24 = .ok (.aload_n 1, 1) := by decide +kernel
theorem dX5_gather_25 : decode cX5_gather 25 = .ok (.getfield 83, 3) := by decide +kernel
theorem dX5_gather_28 : decode cX5_gather 28 = .ok (.iload 6, 2) := by decide +kernel
theorem dX5_gather_30 : decode cX5_gather 30 = .ok (.aaload, 1) := by decide +kernel
theorem dX5_gather_31 : decode cX5_gather 31 = .ok (.astore 7, 2) := by decide +kernel
theorem dX5_gather_33 : decode cX5_gather 33 = .ok (.aload_n 0, 1) := by decide +kernel
theorem dX5_gather_34 : decode cX5_gather 34 = .ok (.getfield 15, 3) := by decide +kernel
theorem dX5_gather_37 : decode cX5_gather 37 = .ok (.iload 6, 2) := by decide +kernel
theorem dX5_gather_39 : decode cX5_gather 39 = .ok (.aload 7, 2) := by decide +kernel
theorem dX5_gather_41 : decode cX5_gather 41 = .ok (.aload_n 0, 1) := by decide +kernel
theorem dX5_gather_42 : decode cX5_gather 42 = .ok (.getfield 9, 3) := by decide +kernel
theorem dX5_gather_45 : decode cX5_gather 45 = .ok (.invokevirtual 149, 3) := by decide +kernel
theorem dX5_gather_48 : decode cX5_gather 48 = .ok (.lastore, 1) := by decide +kernel
theorem dX5_gather_49 : decode cX5_gather 49 = .ok (.aload_n 0, 1) := by decide +kernel
theorem dX5_gather_50 : decode cX5_gather 50 = .ok (.getfield 22, 3) := by decide +kernel
theorem dX5_gather_53 : decode cX5_gather 53 = .ok (.iload 6, 2) := by decide +kernel
theorem dX5_gather_55 : decode cX5_gather 55 = .ok (.iconst (-1), 1) := by decide +kernel
theorem dX5_gather_56 : decode cX5_gather 56 = .ok (.iastore, 1) := by decide +kernel
theorem dX5_gather_57 : decode cX5_gather 57 = .ok (.aload_n 0, 1) := by decide +kernel
theorem dX5_gather_58 : decode cX5_gather 58 = .ok (.getfield 25, 3) := by decide +kernel
theorem dX5_gather_61 : decode cX5_gather 61 = .ok (.iload 6, 2) := by decide +kernel
theorem dX5_gather_63 : decode cX5_gather 63 = .ok (.invokestatic 132, 3) := by decide +kernel
theorem dX5_gather_66 : decode cX5_gather 66 = .ok (.ifCond .ne 14, 3) := by decide +kernel
theorem dX5_gather_69 : decode cX5_gather 69 = .ok (.aload_n 0, 1) := by decide +kernel
theorem dX5_gather_70 : decode cX5_gather 70 = .ok (.getfield 18, 3) := by decide +kernel
theorem dX5_gather_73 : decode cX5_gather 73 = .ok (.iload 6, 2) := by decide +kernel
theorem dX5_gather_75 : decode cX5_gather 75 = .ok (.iconst 0, 1) := by decide +kernel
theorem dX5_gather_76 : decode cX5_gather 76 = .ok (.iastore, 1) := by decide +kernel
theorem dX5_gather_77 : decode cX5_gather 77 = .ok (.goto 59, 3) := by decide +kernel
theorem dX5_gather_80 : decode cX5_gather 80 = .ok (.aload 7, 2) := by decide +kernel
theorem dX5_gather_82 : decode cX5_gather 82 = .ok (.getfield 136, 3) := by decide +kernel
theorem dX5_gather_85 : decode cX5_gather 85 = .ok (.iload_n 2, 1) := by decide +kernel
theorem dX5_gather_86 : decode cX5_gather 86 = .ok (.aload_n 0, 1) := by decide +kernel
theorem dX5_gather_87 : decode cX5_gather 87 = .ok (.getfield 9, 3) := by decide +kernel
theorem dX5_gather_90 : decode cX5_gather 90 = .ok (.invokevirtual 140, 3) := by decide +kernel
theorem dX5_gather_93 : decode cX5_gather 93 = .ok (.ifCond .ne 14, 3) := by decide +kernel
theorem dX5_gather_96 : decode cX5_gather 96 = .ok (.aload_n 0, 1) := by decide +kernel
theorem dX5_gather_97 : decode cX5_gather 97 = .ok (.getfield 18, 3) := by decide +kernel
theorem dX5_gather_100 : decode cX5_gather 100 = .ok (.iload 6, 2) := by decide +kernel
theorem dX5_gather_102 : decode cX5_gather 102 = .ok (.iconst 1, 1) := by decide +kernel
theorem dX5_gather_103 : decode cX5_gather 103 = .ok (.iastore, 1) := by decide +kernel
theorem dX5_gather_104 : decode cX5_gather 104 = .ok (.goto 32, 3) := by decide +kernel
theorem dX5_gather_107 : decode cX5_gather 107 = .ok (.aload_n 0, 1) := by decide +kernel
theorem dX5_gather_108 : decode cX5_gather 108 = .ok (.getfield 18, 3) := by decide +kernel
theorem dX5_gather_111 : decode cX5_gather 111 = .ok (.iload 6, 2) := by decide +kernel
theorem dX5_gather_113 : decode cX5_gather 113 = .ok (.iconst 2, 1) := by decide +kernel
theorem dX5_gather_114 : decode cX5_gather 114 = .ok (.iastore, 1) := by decide +kernel
theorem dX5_gather_115 : decode cX5_gather 115 = .ok (.aload_n 0, 1) := by decide +kernel
theorem dX5_gather_116 : decode cX5_gather 116 = .ok (.getfield 46, 3) := by decide +kernel
theorem dX5_gather_119 : decode cX5_gather 119 = .ok (.aload_n 0, 1) := by decide +kernel
theorem dX5_gather_120 : decode cX5_gather 120 = .ok (.getfield 50, 3) := by decide +kernel
theorem dX5_gather_123 : decode cX5_gather 123 = .ok (.aload 7, 2) := by decide +kernel
theorem dX5_gather_125 : decode cX5_gather 125 = .ok (.aastore, 1) := by decide +kernel
theorem dX5_gather_126 : decode cX5_gather 126 = .ok (.aload_n 0, 1) := by decide +kernel
theorem dX5_gather_127 : decode cX5_gather 127 = .ok (.dup, 1) := by decide +kernel
theorem dX5_gather_128 : decode cX5_gather 128 = .ok (.getfield 50, 3) := by decide +kernel
theorem dX5_gather_131 : decode cX5_gather 131 = .ok (.iconst 1, 1) := by decide +kernel
theorem dX5_gather_132 : decode cX5_gather 132 = .ok (.iadd, 1) := by decide +kernel
theorem dX5_gather_133 : decode cX5_gather 133 = .ok (.putfield 50, 3) := by decide +kernel
theorem dX5_gather_136 : decode cX5_gather 136 = .ok (.iinc 5 1, 3) := by decide +kernel
theorem dX5_gather_139 : decode cX5_gather 139 = .ok (.goto (-131), 3) := by decide +kernel
theorem dX5_gather_142 : decode cX5_gather 142 = .ok (.return_, 1) := by decide +kernel
theorem dX5_beat_0 : decode cX5_beat 0 = .ok (.aload_n 0, 1) := by decide +kernel
theorem dX5_beat_1 : decode cX5_beat 1 = .ok (.getfield 18, 3) := by decide +kernel
theorem dX5_beat_4 : decode cX5_beat 4 = .ok (.iload_n 1, 1) := by decide +kernel
theorem dX5_beat_5 : decode cX5_beat 5 = .ok (.iload_n 2, 1) := by decide +kernel
theorem dX5_beat_6 : decode cX5_beat 6 = .ok (.iastore, 1) := by decide +kernel
theorem dX5_beat_7 : decode cX5_beat 7 = .ok (.aload_n 0, 1) := by decide +kernel
theorem dX5_beat_8 : decode cX5_beat 8 = .ok (.getfield 22, 3) := by decide +kernel
theorem dX5_beat_11 : decode cX5_beat 11 = .ok (.iload_n 1, 1) := by decide +kernel
theorem dX5_beat_12 : decode cX5_beat 12 = .ok (.iload_n 3, 1) := by decide +kernel
theorem dX5_beat_13 : decode cX5_beat 13 = .ok (.iastore, 1) := by decide +kernel
theorem dX5_beat_14 : decode cX5_beat 14 = .ok (.return_, 1) := by decide +kernel
theorem dX5_baseOrSet_0 : decode cX5_baseOrSet 0 = .ok (.aconst_null, 1) := by decide +kernel
theorem dX5_baseOrSet_1 : decode cX5_baseOrSet 1 = .ok (.astore_n 3, 1) := by decide +kernel
theorem dX5_baseOrSet_2 : decode cX5_baseOrSet 2 = .ok (.iconst 0, 1) := by decide +kernel
theorem dX5_baseOrSet_3 : decode cX5_baseOrSet 3 = .ok (.istore 4, 2) := by decide +kernel
theorem dX5_baseOrSet_5 : decode cX5_baseOrSet 5 = .ok (.iload 4, 2) := by decide +kernel
theorem dX5_baseOrSet_7 : decode cX5_baseOrSet 7 = .ok (.aload_n 0, 1) := by decide +kernel
theorem dX5_baseOrSet_8 : decode cX5_baseOrSet 8 = .ok (.getfield 50, 3) := by decide +kernel
theorem dX5_baseOrSet_11 : decode cX5_baseOrSet 11 = .ok (.if_icmp .ge 46, 3) := by decide +kernel
theorem dX5_baseOrSet_14 : decode cX5_baseOrSet 14 = .ok (.aload_n 0, 1) := by decide +kernel
theorem dX5_baseOrSet_15 : decode cX5_baseOrSet 15 = .ok (.getfield 46, 3) := by decide +kernel
theorem dX5_baseOrSet_18 : decode cX5_baseOrSet 18 = .ok (.iload 4, 2) := by decide +kernel
theorem dX5_baseOrSet_20 : decode cX5_baseOrSet 20 = .ok (.aaload, 1) := by decide +kernel
theorem dX5_baseOrSet_21 : decode cX5_baseOrSet 21 = .ok (.astore 5, 2) := by decide +kernel
theorem dX5_baseOrSet_23 : decode cX5_baseOrSet 23 = .ok (.aload 5, 2) := by decide +kernel
theorem dX5_baseOrSet_25 : decode cX5_baseOrSet 25 = .ok (.getfield 129, 3) := by decide +kernel
theorem dX5_baseOrSet_28 : decode cX5_baseOrSet 28 = .ok (.iconst 2, 1) := by decide +kernel
theorem dX5_baseOrSet_29 : decode cX5_baseOrSet 29 = .ok (.if_icmp .ne 22, 3) := by decide +kernel
theorem dX5_baseOrSet_32 : decode cX5_baseOrSet 32 = .ok (.aload_n 3, 1) := by decide +kernel
theorem dX5_baseOrSet_33 : decode cX5_baseOrSet 33 = .ok (.ifnull 15, 3) := by decide +kernel
theorem dX5_baseOrSet_36 : decode cX5_baseOrSet 36 = .ok (.aload 5, 2) := by decide +kernel
theorem dX5_baseOrSet_38 : decode cX5_baseOrSet 38 = .ok (.getfield 153, 3) := by decide +kernel
theorem dX5_baseOrSet_41 : decode cX5_baseOrSet 41 = .ok (.aload_n 3, 1) := by decide +kernel
theorem dX5_baseOrSet_42 : decode cX5_baseOrSet 42 = .ok (.getfield 153, 3) := by decide +kernel
theorem dX5_baseOrSet_45 : decode cX5_baseOrSet 45 = .ok (.if_icmp .le 6, 3) := by decide +kernel
theorem dX5_baseOrSet_48 : decode cX5_baseOrSet 48 = .ok (.aload 5, 2) := by decide +kernel
theorem dX5_baseOrSet_50 : decode cX5_baseOrSet 50 = .ok (.astore_n 3, 1) := by decide +kernel
theorem dX5_baseOrSet_51 : decode cX5_baseOrSet 51 = .ok (.iinc 4 1, 3) := by decide +kernel
theorem dX5_baseOrSet_54 : decode cX5_baseOrSet 54 = .ok (.goto (-49), 3) := by decide +kernel
theorem dX5_baseOrSet_57 : decode cX5_baseOrSet 57 = .ok (.aload_n 3, 1) := by decide +kernel
theorem dX5_baseOrSet_58 : decode cX5_baseOrSet 58 = .ok (.ifnonnull 11, 3) := by decide +kernel
theorem dX5_baseOrSet_61 : decode cX5_baseOrSet 61 = .ok (.aload_n 1, 1) := by decide +kernel
theorem dX5_baseOrSet_62 : decode cX5_baseOrSet 62 = .ok (.getfield 156, 3) := by decide +kernel
theorem dX5_baseOrSet_65 : decode cX5_baseOrSet 65 = .ok (.iload_n 2, 1) := by decide +kernel
theorem dX5_baseOrSet_66 : decode cX5_baseOrSet 66 = .ok (.iaload, 1) := by decide +kernel
theorem dX5_baseOrSet_67 : decode cX5_baseOrSet 67 = .ok (.i2l, 1) := by decide +kernel
theorem dX5_baseOrSet_68 : decode cX5_baseOrSet 68 = .ok (.lreturn, 1) := by decide +kernel
theorem dX5_baseOrSet_69 : decode cX5_baseOrSet 69 = .ok (.iconst 0, 1) := by decide +kernel
theorem dX5_baseOrSet_70 : decode cX5_baseOrSet 70 = .ok (.istore 4, 2) := by decide +kernel
theorem dX5_baseOrSet_72 : decode cX5_baseOrSet 72 = .ok (.iload 4, 2) := by decide +kernel
theorem dX5_baseOrSet_74 : decode cX5_baseOrSet 74 = .ok (.aload_n 0, 1) := by decide +kernel
theorem dX5_baseOrSet_75 : decode cX5_baseOrSet 75 = .ok (.getfield 50, 3) := by decide +kernel
theorem dX5_baseOrSet_78 : decode cX5_baseOrSet 78 = .ok (.if_icmp .ge 100, 3) := by decide +kernel
theorem dX5_baseOrSet_81 : decode cX5_baseOrSet 81 = .ok (.aload_n 0, 1) := by decide +kernel
theorem dX5_baseOrSet_82 : decode cX5_baseOrSet 82 = .ok (.getfield 46, 3) := by decide +kernel
theorem dX5_baseOrSet_85 : decode cX5_baseOrSet 85 = .ok (.iload 4, 2) := by decide +kernel
theorem dX5_baseOrSet_87 : decode cX5_baseOrSet 87 = .ok (.aaload, 1) := by decide +kernel
theorem dX5_baseOrSet_88 : decode cX5_baseOrSet 88 = .ok (.astore 5, 2) := by decide +kernel
theorem dX5_baseOrSet_90 : decode cX5_baseOrSet 90 = .ok (.aload 5, 2) := by decide +kernel
theorem dX5_baseOrSet_92 : decode cX5_baseOrSet 92 = .ok (.getfield 129, 3) := by decide +kernel
theorem dX5_baseOrSet_95 : decode cX5_baseOrSet 95 = .ok (.iconst 2, 1) := by decide +kernel
theorem dX5_baseOrSet_96 : decode cX5_baseOrSet 96 = .ok (.if_icmp .ne 76, 3) := by decide +kernel
theorem dX5_baseOrSet_99 : decode cX5_baseOrSet 99 = .ok (.aload 5, 2) := by decide +kernel
theorem dX5_baseOrSet_101 : decode cX5_baseOrSet 101 = .ok (.getfield 159, 3) := by decide +kernel
theorem dX5_baseOrSet_104 : decode cX5_baseOrSet 104 = .ok (.aload_n 3, 1) := by decide +kernel
theorem dX5_baseOrSet_105 : decode cX5_baseOrSet 105 = .ok (.getfield 159, 3) := by decide +kernel
theorem dX5_baseOrSet_108 : decode cX5_baseOrSet 108 = .ok (.if_icmp .eq 64, 3) := by decide +kernel
theorem dX5_baseOrSet_111 : decode cX5_baseOrSet 111 = .ok (.aload_n 0, 1) := by decide +kernel
theorem dX5_baseOrSet_112 : decode cX5_baseOrSet 112 = .ok (.aload 5, 2) := by decide +kernel
theorem dX5_baseOrSet_114 : decode cX5_baseOrSet 114 = .ok (.getfield 159, 3) := by decide +kernel
theorem dX5_baseOrSet_117 : decode cX5_baseOrSet 117 = .ok (.iconst 4, 1) := by decide +kernel
theorem dX5_baseOrSet_118 : decode cX5_baseOrSet 118 = .ok (.aload_n 3, 1) := by decide +kernel
theorem dX5_baseOrSet_119 : decode cX5_baseOrSet 119 = .ok (.getfield 159, 3) := by decide +kernel
theorem dX5_baseOrSet_122 : decode cX5_baseOrSet 122 = .ok (.invokevirtual 162, 3) := by decide +kernel
theorem dX5_baseOrSet_125 : decode cX5_baseOrSet 125 = .ok (.aload 5, 2) := by decide +kernel
theorem dX5_baseOrSet_127 : decode cX5_baseOrSet 127 = .ok (.getfield 153, 3) := by decide +kernel
theorem dX5_baseOrSet_130 : decode cX5_baseOrSet 130 = .ok (.aload_n 3, 1) := by decide +kernel
theorem dX5_baseOrSet_131 : decode cX5_baseOrSet 131 = .ok (.getfield 153, 3) := by decide +kernel
theorem dX5_baseOrSet_134 : decode cX5_baseOrSet 134 = .ok (.if_icmp .ne 38, 3) := by decide +kernel
theorem dX5_baseOrSet_137 : decode cX5_baseOrSet 137 = .ok (.aload_n 0, 1) := by decide +kernel
theorem dX5_baseOrSet_138 : decode cX5_baseOrSet 138 = .ok (.getfield 15, 3) := by decide +kernel
theorem dX5_baseOrSet_141 : decode cX5_baseOrSet 141 = .ok (.aload 5, 2) := by decide +kernel
theorem dX5_baseOrSet_143 : decode cX5_baseOrSet 143 = .ok (.getfield 159, 3) := by decide +kernel
theorem dX5_baseOrSet_146 : decode cX5_baseOrSet 146 = .ok (.laload, 1) := by decide +kernel
theorem dX5_baseOrSet_147 : decode cX5_baseOrSet 147 = .ok (.aload_n 0, 1) := by decide +kernel
theorem dX5_baseOrSet_148 : decode cX5_baseOrSet 148 = .ok (.getfield 15, 3) := by decide +kernel
theorem dX5_baseOrSet_151 : decode cX5_baseOrSet 151 = .ok (.aload_n 3, 1) := by decide +kernel
theorem dX5_baseOrSet_152 : decode cX5_baseOrSet 152 = .ok (.getfield 159, 3) := by decide +kernel
theorem dX5_baseOrSet_155 : decode cX5_baseOrSet 155 = .ok (.laload, 1) := by decide +kernel
theorem dX5_baseOrSet_156 : decode cX5_baseOrSet 156 = .ok (.lcmp, 1) := by decide +kernel
theorem dX5_baseOrSet_157 : decode cX5_baseOrSet 157 = .ok (.ifCond .eq 15, 3) := by decide +kernel
theorem dX5_baseOrSet_160 : decode cX5_baseOrSet 160 = .ok (.aload_n 0, 1) := by decide +kernel
theorem dX5_baseOrSet_161 : decode cX5_baseOrSet 161 = .ok (.dup, 1) := by decide +kernel
theorem dX5_baseOrSet_162 : decode cX5_baseOrSet 162 = .ok (.getfield 29, 3) := by decide +kernel
theorem dX5_baseOrSet_165 : decode cX5_baseOrSet 165 = .ok (.iconst 1, 1) := by decide +kernel
theorem dX5_baseOrSet_166 : decode cX5_baseOrSet 166 = .ok (.iload_n 2, 1) := by decide +kernel
theorem dX5_baseOrSet_167 : decode cX5_baseOrSet 167 = .ok (.ishl, 1) := by decide +kernel
theorem dX5_baseOrSet_168 : decode cX5_baseOrSet 168 = .ok (.ior, 1) := by decide +kernel
theorem dX5_baseOrSet_169 : decode cX5_baseOrSet 169 = .ok (.putfield 29, 3) := by decide +kernel
theorem dX5_baseOrSet_172 : decode cX5_baseOrSet 172 = .ok (.iinc 4 1, 3) := by decide +kernel
theorem dX5_baseOrSet_175 : decode cX5_baseOrSet 175 = .ok (.goto (-103), 3) := by decide +kernel
theorem dX5_baseOrSet_178 : decode cX5_baseOrSet 178 = .ok (.aload_n 0, 1) := by decide +kernel
theorem dX5_baseOrSet_179 : decode cX5_baseOrSet 179 = .ok (.getfield 15, 3) := by decide +kernel
theorem dX5_baseOrSet_182 : decode cX5_baseOrSet 182 = .ok (.aload_n 3, 1) := by decide +kernel
theorem dX5_baseOrSet_183 : decode cX5_baseOrSet 183 = .ok (.getfield 159, 3) := by decide +kernel
theorem dX5_baseOrSet_186 : decode cX5_baseOrSet 186 = .ok (.laload, 1) := by decide +kernel
theorem dX5_baseOrSet_187 : decode cX5_baseOrSet 187 = .ok (.lreturn, 1) := by decide +kernel
theorem dX5_markTwice_0 : decode cX5_markTwice 0 = .ok (.aload_n 0, 1) := by decide +kernel
theorem dX5_markTwice_1 : decode cX5_markTwice 1 = .ok (.getfield 53, 3) := by decide +kernel
theorem dX5_markTwice_4 : decode cX5_markTwice 4 = .ok (.iconst (-1), 1) := by decide +kernel
theorem dX5_markTwice_5 : decode cX5_markTwice 5 = .ok (.invokestatic 166, 3) := by decide +kernel
theorem dX5_markTwice_8 : decode cX5_markTwice 8 = .ok (.iconst 0, 1) := by decide +kernel
theorem dX5_markTwice_9 : decode cX5_markTwice 9 = .ok (.istore_n 1, 1) := by decide +kernel
theorem dX5_markTwice_10 : decode cX5_markTwice 10 = .ok (.iload_n 1, 1) := by decide +kernel
theorem dX5_markTwice_11 : decode cX5_markTwice 11 = .ok (.aload_n 0, 1) := by decide +kernel
theorem dX5_markTwice_12 : decode cX5_markTwice 12 = .ok (.getfield 50, 3) := by decide +kernel
theorem dX5_markTwice_15 : decode cX5_markTwice 15 = .ok (.if_icmp .ge 81, 3) := by decide +kernel
theorem dX5_markTwice_18 : decode cX5_markTwice 18 = .ok (.aload_n 0, 1) := by decide +kernel
theorem dX5_markTwice_19 : decode cX5_markTwice 19 = .ok (.getfield 46, 3) := by decide +kernel
theorem dX5_markTwice_22 : decode cX5_markTwice 22 = .ok (.iload_n 1, 1) := by decide +kernel
theorem dX5_markTwice_23 : decode cX5_markTwice 23 = .ok (.aaload, 1) := by decide +kernel
theorem dX5_markTwice_24 : decode cX5_markTwice 24 = .ok (.astore_n 2, 1) := by decide +kernel
theorem dX5_markTwice_25 : decode cX5_markTwice 25 = .ok (.aload_n 2, 1) := by decide +kernel
theorem dX5_markTwice_26 : decode cX5_markTwice 26 = .ok (.getfield 129, 3) := by decide +kernel
theorem dX5_markTwice_29 : decode cX5_markTwice 29 = .ok (.iconst 1, 1) := by decide +kernel
theorem dX5_markTwice_30 : decode cX5_markTwice 30 = .ok (.if_icmp .gt 60, 3) := by decide +kernel
theorem dX5_markTwice_33 : decode cX5_markTwice 33 = .ok (.aload_n 2, 1) := by decide +kernel
theorem dX5_markTwice_34 : decode cX5_markTwice 34 = .ok (.getfield 172, 3) := by decide +kernel
theorem dX5_markTwice_37 : decode cX5_markTwice 37 = .ok (.ifCond .ne 6, 3) := by decide +kernel
theorem dX5_markTwice_40 : decode cX5_markTwice 40 = .ok (.goto 50, 3) := by decide +kernel
theorem dX5_markTwice_43 : decode cX5_markTwice 43 = .ok (.aload_n 0, 1) := by decide +kernel
theorem dX5_markTwice_44 : decode cX5_markTwice 44 = .ok (.getfield 53, 3) := by decide +kernel
theorem dX5_markTwice_47 : decode cX5_markTwice 47 = .ok (.aload_n 2, 1) := by decide +kernel
theorem dX5_markTwice_48 : decode cX5_markTwice 48 = .ok (.getfield 172, 3) := by decide +kernel
theorem dX5_markTwice_51 : decode cX5_markTwice 51 = .ok (.iaload, 1) := by decide +kernel
theorem dX5_markTwice_52 : decode cX5_markTwice 52 = .ok (.iconst (-1), 1) := by decide +kernel
theorem dX5_markTwice_53 : decode cX5_markTwice 53 = .ok (.if_icmp .ne 19, 3) := by decide +kernel
theorem dX5_markTwice_56 : decode cX5_markTwice 56 = .ok (.aload_n 0, 1) := by decide +kernel
theorem dX5_markTwice_57 : decode cX5_markTwice 57 = .ok (.getfield 53, 3) := by decide +kernel
theorem dX5_markTwice_60 : decode cX5_markTwice 60 = .ok (.aload_n 2, 1) := by decide +kernel
theorem dX5_markTwice_61 : decode cX5_markTwice 61 = .ok (.getfield 172, 3) := by decide +kernel
theorem dX5_markTwice_64 : decode cX5_markTwice 64 = .ok (.aload_n 2, 1) := by decide +kernel
theorem dX5_markTwice_65 : decode cX5_markTwice 65 = .ok (.getfield 159, 3) := by decide +kernel
theorem dX5_markTwice_68 : decode cX5_markTwice 68 = .ok (.iastore, 1) := by decide +kernel
theorem dX5_markTwice_69 : decode cX5_markTwice 69 = .ok (.goto 21, 3) := by decide +kernel
theorem dX5_markTwice_72 : decode cX5_markTwice 72 = .ok (.aload_n 0, 1) := by decide +kernel
theorem dX5_markTwice_73 : decode cX5_markTwice 73 = .ok (.aload_n 2, 1) := by decide +kernel
theorem dX5_markTwice_74 : decode cX5_markTwice 74 = .ok (.getfield 159, 3) := by decide +kernel
theorem dX5_markTwice_77 : decode cX5_markTwice 77 = .ok (.iconst 3, 1) := by decide +kernel
theorem dX5_markTwice_78 : decode cX5_markTwice 78 = .ok (.aload_n 0, 1) := by decide +kernel
theorem dX5_markTwice_79 : decode cX5_markTwice 79 = .ok (.getfield 53, 3) := by decide +kernel
theorem dX5_markTwice_82 : decode cX5_markTwice 82 = .ok (.aload_n 2, 1) := by decide +kernel
theorem dX5_markTwice_83 : decode cX5_markTwice 83 = .ok (.getfield 172, 3) := by decide +kernel
theorem dX5_markTwice_86 : decode cX5_markTwice 86 = .ok (.iaload, 1) := by decide +kernel
theorem dX5_markTwice_87 : decode cX5_markTwice 87 = .ok (.invokevirtual 162, 3) := by decide +kernel
theorem dX5_markTwice_90 : decode cX5_markTwice 90 = .ok (.iinc 1 1, 3) := by decide +kernel
theorem dX5_markTwice_93 : decode cX5_markTwice 93 = .ok (.goto (-83), 3) := by decide +kernel
theorem dX5_markTwice_96 : decode cX5_markTwice 96 = .ok (.return_, 1) := by decide +kernel
theorem dX5_beatTyped_0 : decode cX5_beatTyped 0 = .ok (.aload_n 0, 1) := by decide +kernel
theorem dX5_beatTyped_1 : decode cX5_beatTyped 1 = .ok (.getfield 56, 3) := by decide +kernel
theorem dX5_beatTyped_4 : decode cX5_beatTyped 4 = .ok (.iconst (-1), 1) := by decide +kernel
theorem dX5_beatTyped_5 : decode cX5_beatTyped 5 = .ok (.invokestatic 166, 3) := by decide +kernel
theorem dX5_beatTyped_8 : decode cX5_beatTyped 8 = .ok (.aload_n 0, 1) := by decide +kernel
theorem dX5_beatTyped_9 : decode cX5_beatTyped 9 = .ok (.getfield 59, 3) := by decide +kernel
theorem dX5_beatTyped_12 : decode cX5_beatTyped 12 = .ok (.iconst (-1), 1) := by decide +kernel
theorem dX5_beatTyped_13 : decode cX5_beatTyped 13 = .ok (.invokestatic 166, 3) := by decide +kernel
theorem dX5_beatTyped_16 : decode cX5_beatTyped 16 = .ok (.iconst 0, 1) := by decide +kernel
theorem dX5_beatTyped_17 : decode cX5_beatTyped 17 = .ok (.istore_n 2, 1) := by decide +kernel
theorem dX5_beatTyped_18 : decode cX5_beatTyped 18 = .ok (.iload_n 2, 1) := by decide +kernel
theorem dX5_beatTyped_19 : decode cX5_beatTyped 19 = .ok (.aload_n 0, 1) := by decide +kernel
theorem dX5_beatTyped_20 : decode cX5_beatTyped 20 = .ok (.getfield 50, 3) := by decide +kernel
theorem dX5_beatTyped_23 : decode cX5_beatTyped 23 = .ok (.if_icmp .ge 49, 3) := by decide +kernel
theorem dX5_beatTyped_26 : decode cX5_beatTyped 26 = .ok (.aload_n 0, 1) := by decide +kernel
theorem dX5_beatTyped_27 : decode cX5_beatTyped 27 = .ok (.getfield 46, 3) := by decide +kernel
theorem dX5_beatTyped_30 : decode cX5_beatTyped 30 = .ok (.iload_n 2, 1) := by decide +kernel
theorem dX5_beatTyped_31 : decode cX5_beatTyped 31 = .ok (.aaload, 1) := by decide +kernel
theorem dX5_beatTyped_32 : decode cX5_beatTyped 32 = .ok (.astore 4, 2) := by decide +kernel
theorem dX5_beatTyped_34 : decode cX5_beatTyped 34 = .ok (.aload 4, 2) := by decide +kernel
theorem dX5_beatTyped_36 : decode cX5_beatTyped 36 = .ok (.instanceof 175, 3) := by decide +kernel
theorem dX5_beatTyped_39 : decode cX5_beatTyped 39 = .ok (.ifCond .eq 27, 3) := by decide +kernel
theorem dX5_beatTyped_42 : decode cX5_beatTyped 42 = .ok (.aload 4, 2) := by decide +kernel
theorem dX5_beatTyped_44 : decode cX5_beatTyped 44 = .ok (.checkcast 175, 3) := by decide +kernel
theorem dX5_beatTyped_47 : decode cX5_beatTyped 47 = .ok (.astore_n 3, 1) := by decide +kernel
theorem dX5_beatTyped_48 : decode cX5_beatTyped 48 = .ok (.aload_n 0, 1) := by decide +kernel
theorem dX5_beatTyped_49 : decode cX5_beatTyped 49 = .ok (.getfield 18, 3) := by decide +kernel
theorem dX5_beatTyped_52 : decode cX5_beatTyped 52 = .ok (.aload_n 3, 1) := by decide +kernel
theorem dX5_beatTyped_53 : decode cX5_beatTyped 53 = .ok (.getfield 177, 3) := by decide +kernel
theorem dX5_beatTyped_56 : decode cX5_beatTyped 56 = .ok (.iaload, 1) := by decide +kernel
theorem dX5_beatTyped_57 : decode cX5_beatTyped 57 = .ok (.iconst 2, 1) := by decide +kernel
theorem dX5_beatTyped_58 : decode cX5_beatTyped 58 = .ok (.if_icmp .ne 8, 3) := by decide +kernel
theorem dX5_beatTyped_61 : decode cX5_beatTyped 61 = .ok (.aload_n 0, 1) := by decide +kernel
theorem dX5_beatTyped_62 : decode cX5_beatTyped 62 = .ok (.aload_n 3, 1) := by decide +kernel
theorem dX5_beatTyped_63 : decode cX5_beatTyped 63 = .ok (.invokevirtual 178, 3) := by decide +kernel
theorem dX5_beatTyped_66 : decode cX5_beatTyped 66 = .ok (.iinc 2 1, 3) := by decide +kernel
theorem dX5_beatTyped_69 : decode cX5_beatTyped 69 = .ok (.goto (-51), 3) := by decide +kernel
theorem dX5_beatTyped_72 : decode cX5_beatTyped 72 = .ok (.iconst 0, 1) := by decide +kernel
theorem dX5_beatTyped_73 : decode cX5_beatTyped 73 = .ok (.istore_n 2, 1) := by decide +kernel
theorem dX5_beatTyped_74 : decode cX5_beatTyped 74 = .ok (.iload_n 2, 1) := by decide +kernel
theorem dX5_beatTyped_75 : decode cX5_beatTyped 75 = .ok (.aload_n 0, 1) := by decide +kernel
theorem dX5_beatTyped_76 : decode cX5_beatTyped 76 = .ok (.getfield 50, 3) := by decide +kernel
theorem dX5_beatTyped_79 : decode cX5_beatTyped 79 = .ok (.if_icmp .ge 85, 3) := by decide +kernel
theorem dX5_beatTyped_82 : decode cX5_beatTyped 82 = .ok (.aload_n 0, 1) := by decide +kernel
theorem dX5_beatTyped_83 : decode cX5_beatTyped 83 = .ok (.getfield 46, 3) := by decide +kernel
theorem dX5_beatTyped_86 : decode cX5_beatTyped 86 = .ok (.iload_n 2, 1) := by decide +kernel
theorem dX5_beatTyped_87 : decode cX5_beatTyped 87 = .ok (.aaload, 1) := by decide +kernel
theorem dX5_beatTyped_88 : decode cX5_beatTyped 88 = .ok (.astore 4, 2) := by decide +kernel
theorem dX5_beatTyped_90 : decode cX5_beatTyped 90 = .ok (.aload 4, 2) := by decide +kernel
theorem dX5_beatTyped_92 : decode cX5_beatTyped 92 = .ok (.instanceof 175, 3) := by decide +kernel
theorem dX5_beatTyped_95 : decode cX5_beatTyped 95 = .ok (.ifCond .eq 63, 3) := by decide +kernel
theorem dX5_beatTyped_98 : decode cX5_beatTyped 98 = .ok (.aload 4, 2) := by decide +kernel
theorem dX5_beatTyped_100 : decode cX5_beatTyped 100 = .ok (.checkcast 175, 3) := by decide +kernel
theorem dX5_beatTyped_103 : decode cX5_beatTyped 103 = .ok (.astore_n 3, 1) := by decide +kernel
theorem dX5_beatTyped_104 : decode cX5_beatTyped 104 = .ok (.aload_n 0, 1) := by decide +kernel
theorem dX5_beatTyped_105 : decode cX5_beatTyped 105 = .ok (.getfield 18, 3) := by decide +kernel
theorem dX5_beatTyped_108 : decode cX5_beatTyped 108 = .ok (.aload_n 3, 1) := by decide +kernel
theorem dX5_beatTyped_109 : decode cX5_beatTyped 109 = .ok (.getfield 177, 3) := by decide +kernel
theorem dX5_beatTyped_112 : decode cX5_beatTyped 112 = .ok (.iaload, 1) := by decide +kernel
theorem dX5_beatTyped_113 : decode cX5_beatTyped 113 = .ok (.iconst 2, 1) := by decide +kernel
theorem dX5_beatTyped_114 : decode cX5_beatTyped 114 = .ok (.if_icmp .ne 44, 3) := by decide +kernel
theorem dX5_beatTyped_117 : decode cX5_beatTyped 117 = .ok (.aload_n 1, 1) := by decide +kernel
theorem dX5_beatTyped_118 : decode cX5_beatTyped 118 = .ok (.getfield 182, 3) := by decide +kernel
theorem dX5_beatTyped_121 : decode cX5_beatTyped 121 = .ok (.aload_n 3, 1) := by decide +kernel
theorem dX5_beatTyped_122 : decode cX5_beatTyped 122 = .ok (.getfield 185, 3) := by decide +kernel
theorem dX5_beatTyped_125 : decode cX5_beatTyped 125 = .ok (.invokestatic 132, 3) := by decide +kernel
theorem dX5_beatTyped_128 : decode cX5_beatTyped 128 = .ok (.ifCond .ne 30, 3) := by decide +kernel
theorem dX5_beatTyped_131 : decode cX5_beatTyped 131 = .ok (.aload_n 0, 1) := by decide +kernel
theorem dX5_beatTyped_132 : decode cX5_beatTyped 132 = .ok (.aload_n 3, 1) := by decide +kernel
theorem dX5_beatTyped_133 : decode cX5_beatTyped 133 = .ok (.invokevirtual 188, 3) := by decide +kernel
theorem dX5_beatTyped_136 : decode cX5_beatTyped 136 = .ok (.istore 4, 2) := by decide +kernel
theorem dX5_beatTyped_138 : decode cX5_beatTyped 138 = .ok (.iload 4, 2) := by decide +kernel
theorem dX5_beatTyped_140 : decode cX5_beatTyped 140 = .ok (.aload_n 3, 1) := by decide +kernel
theorem dX5_beatTyped_141 : decode cX5_beatTyped 141 = .ok (.getfield 177, 3) := by decide +kernel
theorem dX5_beatTyped_144 : decode cX5_beatTyped 144 = .ok (.if_icmp .eq 14, 3) := by decide +kernel
theorem dX5_beatTyped_147 : decode cX5_beatTyped 147 = .ok (.aload_n 0, 1) := by decide +kernel
theorem dX5_beatTyped_148 : decode cX5_beatTyped 148 = .ok (.aload_n 3, 1) := by decide +kernel
theorem dX5_beatTyped_149 : decode cX5_beatTyped 149 = .ok (.getfield 177, 3) := by decide +kernel
theorem dX5_beatTyped_152 : decode cX5_beatTyped 152 = .ok (.iconst 4, 1) := by decide +kernel
theorem dX5_beatTyped_153 : decode cX5_beatTyped 153 = .ok (.iload 4, 2) := by decide +kernel
theorem dX5_beatTyped_155 : decode cX5_beatTyped 155 = .ok (.invokevirtual 162, 3) := by decide +kernel
theorem dX5_beatTyped_158 : decode cX5_beatTyped 158 = .ok (.iinc 2 1, 3) := by decide +kernel
theorem dX5_beatTyped_161 : decode cX5_beatTyped 161 = .ok (.goto (-87), 3) := by decide +kernel
theorem dX5_beatTyped_164 : decode cX5_beatTyped 164 = .ok (.return_, 1) := by decide +kernel
theorem dX5_compare_0 : decode cX5_compare 0 = .ok (.aload_n 0, 1) := by decide +kernel
theorem dX5_compare_1 : decode cX5_compare 1 = .ok (.getfield 15, 3) := by decide +kernel
theorem dX5_compare_4 : decode cX5_compare 4 = .ok (.aload_n 1, 1) := by decide +kernel
theorem dX5_compare_5 : decode cX5_compare 5 = .ok (.getfield 177, 3) := by decide +kernel
theorem dX5_compare_8 : decode cX5_compare 8 = .ok (.laload, 1) := by decide +kernel
theorem dX5_compare_9 : decode cX5_compare 9 = .ok (.lstore_n 2, 1) := by decide +kernel
theorem dX5_compare_10 : decode cX5_compare 10 = .ok (.aload_n 0, 1) := by decide +kernel
theorem dX5_compare_11 : decode cX5_compare 11 = .ok (.getfield 56, 3) := by decide +kernel
theorem dX5_compare_14 : decode cX5_compare 14 = .ok (.aload_n 1, 1) := by decide +kernel
theorem dX5_compare_15 : decode cX5_compare 15 = .ok (.getfield 185, 3) := by decide +kernel
theorem dX5_compare_18 : decode cX5_compare 18 = .ok (.iaload, 1) := by decide +kernel
theorem dX5_compare_19 : decode cX5_compare 19 = .ok (.istore 4, 2) := by decide +kernel
theorem dX5_compare_21 : decode cX5_compare 21 = .ok (.aload_n 0, 1) := by decide +kernel
theorem dX5_compare_22 : decode cX5_compare 22 = .ok (.getfield 59, 3) := by decide +kernel
theorem dX5_compare_25 : decode cX5_compare 25 = .ok (.aload_n 1, 1) := by decide +kernel
theorem dX5_compare_26 : decode cX5_compare 26 = .ok (.getfield 185, 3) := by decide +kernel
theorem dX5_compare_29 : decode cX5_compare 29 = .ok (.iaload, 1) := by decide +kernel
theorem dX5_compare_30 : decode cX5_compare 30 = .ok (.istore 5, 2) := by decide +kernel
theorem dX5_compare_32 : decode cX5_compare 32 = .ok (.lload_n 2, 1) := by decide +kernel
theorem dX5_compare_33 : decode cX5_compare 33 = .ok (.lconst 0, 1) := by decide +kernel
theorem dX5_compare_34 : decode cX5_compare 34 = .ok (.lcmp, 1) := by decide +kernel
theorem dX5_compare_35 : decode cX5_compare 35 = .ok (.ifCond .le 34, 3) := by decide +kernel
theorem dX5_compare_38 : decode cX5_compare 38 = .ok (.iload 4, 2) := by decide +kernel
theorem dX5_compare_40 : decode cX5_compare 40 = .ok (.iconst (-1), 1) := by decide +kernel
theorem dX5_compare_41 : decode cX5_compare 41 = .ok (.if_icmp .eq 15, 3) := by decide +kernel
theorem dX5_compare_44 : decode cX5_compare 44 = .ok (.lload_n 2, 1) := by decide +kernel
theorem dX5_compare_45 : decode cX5_compare 45 = .ok (.aload_n 0, 1) := by decide +kernel
theorem dX5_compare_46 : decode cX5_compare 46 = .ok (.getfield 15, 3) := by decide +kernel
theorem dX5_compare_49 : decode cX5_compare 49 = .ok (.iload 4, 2) := by decide +kernel
theorem dX5_compare_51 : decode cX5_compare 51 = .ok (.laload, 1) := by decide +kernel
theorem dX5_compare_52 : decode cX5_compare 52 = .ok (.lcmp, 1) := by decide +kernel
theorem dX5_compare_53 : decode cX5_compare 53 = .ok (.ifCond .le 16, 3) := by decide +kernel
theorem dX5_compare_56 : decode cX5_compare 56 = .ok (.aload_n 0, 1) := by decide +kernel
theorem dX5_compare_57 : decode cX5_compare 57 = .ok (.getfield 56, 3) := by decide +kernel
theorem dX5_compare_60 : decode cX5_compare 60 = .ok (.aload_n 1, 1) := by decide +kernel
theorem dX5_compare_61 : decode cX5_compare 61 = .ok (.getfield 185, 3) := by decide +kernel
theorem dX5_compare_64 : decode cX5_compare 64 = .ok (.aload_n 1, 1) := by decide +kernel
theorem dX5_compare_65 : decode cX5_compare 65 = .ok (.getfield 177, 3) := by decide +kernel
theorem dX5_compare_68 : decode cX5_compare 68 = .ok (.iastore, 1) := by decide +kernel
theorem dX5_compare_69 : decode cX5_compare 69 = .ok (.lload_n 2, 1) := by decide +kernel
theorem dX5_compare_70 : decode cX5_compare 70 = .ok (.lconst 0, 1) := by decide +kernel
theorem dX5_compare_71 : decode cX5_compare 71 = .ok (.lcmp, 1) := by decide +kernel
theorem dX5_compare_72 : decode cX5_compare 72 = .ok (.ifCond .ge 34, 3) := by decide +kernel
theorem dX5_compare_75 : decode cX5_compare 75 = .ok (.iload 5, 2) := by decide +kernel
theorem dX5_compare_77 : decode cX5_compare 77 = .ok (.iconst (-1), 1) := by decide +kernel
theorem dX5_compare_78 : decode cX5_compare 78 = .ok (.if_icmp .eq 15, 3) := by decide +kernel
theorem dX5_compare_81 : decode cX5_compare 81 = .ok (.lload_n 2, 1) := by decide +kernel
theorem dX5_compare_82 : decode cX5_compare 82 = .ok (.aload_n 0, 1) := by decide +kernel
theorem dX5_compare_83 : decode cX5_compare 83 = .ok (.getfield 15, 3) := by decide +kernel
theorem dX5_compare_86 : decode cX5_compare 86 = .ok (.iload 5, 2) := by decide +kernel
theorem dX5_compare_88 : decode cX5_compare 88 = .ok (.laload, 1) := by decide +kernel
theorem dX5_compare_89 : decode cX5_compare 89 = .ok (.lcmp, 1) := by decide +kernel
theorem dX5_compare_90 : decode cX5_compare 90 = .ok (.ifCond .ge 16, 3) := by decide +kernel
theorem dX5_compare_93 : decode cX5_compare 93 = .ok (.aload_n 0, 1) := by decide +kernel
theorem dX5_compare_94 : decode cX5_compare 94 = .ok (.getfield 59, 3) := by decide +kernel
theorem dX5_compare_97 : decode cX5_compare 97 = .ok (.aload_n 1, 1) := by decide +kernel
theorem dX5_compare_98 : decode cX5_compare 98 = .ok (.getfield 185, 3) := by decide +kernel
theorem dX5_compare_101 : decode cX5_compare 101 = .ok (.aload_n 1, 1) := by decide +kernel
theorem dX5_compare_102 : decode cX5_compare 102 = .ok (.getfield 177, 3) := by decide +kernel
theorem dX5_compare_105 : decode cX5_compare 105 = .ok (.iastore, 1) := by decide +kernel
theorem dX5_compare_106 : decode cX5_compare 106 = .ok (.return_, 1) := by decide +kernel
theorem dX5_bestLike_0 : decode cX5_bestLike 0 = .ok (.aload_n 0, 1) := by decide +kernel
theorem dX5_bestLike_1 : decode cX5_bestLike 1 = .ok (.getfield 15, 3) := by decide +kernel
theorem dX5_bestLike_4 : decode cX5_bestLike 4 = .ok (.aload_n 1, 1) := by decide +kernel
theorem dX5_bestLike_5 : decode cX5_bestLike 5 = .ok (.getfield 177, 3) := by decide +kernel
theorem dX5_bestLike_8 : decode cX5_bestLike 8 = .ok (.laload, 1) := by decide +kernel
theorem dX5_bestLike_9 : decode cX5_bestLike 9 = .ok (.lstore_n 2, 1) := by decide +kernel
theorem dX5_bestLike_10 : decode cX5_bestLike 10 = .ok (.lload_n 2, 1) := by decide +kernel
theorem dX5_bestLike_11 : decode cX5_bestLike 11 = .ok (.lconst 0, 1) := by decide +kernel
theorem dX5_bestLike_12 : decode cX5_bestLike 12 = .ok (.lcmp, 1) := by decide +kernel
theorem dX5_bestLike_13 : decode cX5_bestLike 13 = .ok (.ifCond .ne 5, 3) := by decide +kernel
theorem dX5_bestLike_16 : decode cX5_bestLike 16 = .ok (.iconst (-1), 1) := by decide +kernel
theorem dX5_bestLike_17 : decode cX5_bestLike 17 = .ok (.ireturn, 1) := by decide +kernel
theorem dX5_bestLike_18 : decode cX5_bestLike 18 = .ok (.lload_n 2, 1) := by decide +kernel
theorem dX5_bestLike_19 : decode cX5_bestLike 19 = .ok (.lconst 0, 1) := by decide +kernel
theorem dX5_bestLike_20 : decode cX5_bestLike 20 = .ok (.lcmp, 1) := by decide +kernel
theorem dX5_bestLike_21 : decode cX5_bestLike 21 = .ok (.ifCond .le 15, 3) := by decide +kernel
theorem dX5_bestLike_24 : decode cX5_bestLike 24 = .ok (.aload_n 0, 1) := by decide +kernel
theorem dX5_bestLike_25 : decode cX5_bestLike 25 = .ok (.getfield 56, 3) := by decide +kernel
theorem dX5_bestLike_28 : decode cX5_bestLike 28 = .ok (.aload_n 1, 1) := by decide +kernel
theorem dX5_bestLike_29 : decode cX5_bestLike 29 = .ok (.getfield 185, 3) := by decide +kernel
theorem dX5_bestLike_32 : decode cX5_bestLike 32 = .ok (.iaload, 1) := by decide +kernel
theorem dX5_bestLike_33 : decode cX5_bestLike 33 = .ok (.goto 12, 3) := by decide +kernel
theorem dX5_bestLike_36 : decode cX5_bestLike 36 = .ok (.aload_n 0, 1) := by decide +kernel
theorem dX5_bestLike_37 : decode cX5_bestLike 37 = .ok (.getfield 59, 3) := by decide +kernel
theorem dX5_bestLike_40 : decode cX5_bestLike 40 = .ok (.aload_n 1, 1) := by decide +kernel
theorem dX5_bestLike_41 : decode cX5_bestLike 41 = .ok (.getfield 185, 3) := by decide +kernel
theorem dX5_bestLike_44 : decode cX5_bestLike 44 = .ok (.iaload, 1) := by decide +kernel
theorem dX5_bestLike_45 : decode cX5_bestLike 45 = .ok (.ireturn, 1) := by decide +kernel
theorem dX5_boons_0 : decode cX5_boons 0 = .ok (.lconst 0, 1) := by decide +kernel
theorem dX5_boons_1 : decode cX5_boons 1 = .ok (.lstore_n 1, 1) := by decide +kernel
theorem dX5_boons_2 : decode cX5_boons 2 = .ok (.iconst 0, 1) := by decide +kernel
theorem dX5_boons_3 : decode cX5_boons 3 = .ok (.istore_n 3, 1) := by decide +kernel
theorem dX5_boons_4 : decode cX5_boons 4 = .ok (.iload_n 3, 1) := by decide +kernel
theorem dX5_boons_5 : decode cX5_boons 5 = .ok (.aload_n 0, 1) := by decide +kernel
theorem dX5_boons_6 : decode cX5_boons 6 = .ok (.getfield 50, 3) := by decide +kernel
theorem dX5_boons_9 : decode cX5_boons 9 = .ok (.if_icmp .ge 53, 3) := by decide +kernel
theorem dX5_boons_12 : decode cX5_boons 12 = .ok (.aload_n 0, 1) := by decide +kernel
theorem dX5_boons_13 : decode cX5_boons 13 = .ok (.getfield 46, 3) := by decide +kernel
theorem dX5_boons_16 : decode cX5_boons 16 = .ok (.iload_n 3, 1) := by decide +kernel
theorem dX5_boons_17 : decode cX5_boons 17 = .ok (.aaload, 1) := by decide +kernel
theorem dX5_boons_18 : decode cX5_boons 18 = .ok (.astore 4, 2) := by decide +kernel
theorem dX5_boons_20 : decode cX5_boons 20 = .ok (.aload 4, 2) := by decide +kernel
theorem dX5_boons_22 : decode cX5_boons 22 = .ok (.getfield 129, 3) := by decide +kernel
theorem dX5_boons_25 : decode cX5_boons 25 = .ok (.iconst 1, 1) := by decide +kernel
theorem dX5_boons_26 : decode cX5_boons 26 = .ok (.if_icmp .gt 30, 3) := by decide +kernel
theorem dX5_boons_29 : decode cX5_boons 29 = .ok (.aload_n 0, 1) := by decide +kernel
theorem dX5_boons_30 : decode cX5_boons 30 = .ok (.getfield 18, 3) := by decide +kernel
theorem dX5_boons_33 : decode cX5_boons 33 = .ok (.aload 4, 2) := by decide +kernel
theorem dX5_boons_35 : decode cX5_boons 35 = .ok (.getfield 159, 3) := by decide +kernel
theorem dX5_boons_38 : decode cX5_boons 38 = .ok (.iaload, 1) := by decide +kernel
theorem dX5_boons_39 : decode cX5_boons 39 = .ok (.iconst 2, 1) := by decide +kernel
theorem dX5_boons_40 : decode cX5_boons 40 = .ok (.if_icmp .ne 16, 3) := by decide +kernel
theorem dX5_boons_43 : decode cX5_boons 43 = .ok (.lload_n 1, 1) := by decide +kernel
theorem dX5_boons_44 : decode cX5_boons 44 = .ok (.aload_n 0, 1) := by decide +kernel
theorem dX5_boons_45 : decode cX5_boons 45 = .ok (.getfield 15, 3) := by decide +kernel
theorem dX5_boons_48 : decode cX5_boons 48 = .ok (.aload 4, 2) := by decide +kernel
theorem dX5_boons_50 : decode cX5_boons 50 = .ok (.getfield 159, 3) := by decide +kernel
theorem dX5_boons_53 : decode cX5_boons 53 = .ok (.laload, 1) := by decide +kernel
theorem dX5_boons_54 : decode cX5_boons 54 = .ok (.ladd, 1) := by decide +kernel
theorem dX5_boons_55 : decode cX5_boons 55 = .ok (.lstore_n 1, 1) := by decide +kernel
theorem dX5_boons_56 : decode cX5_boons 56 = .ok (.iinc 3 1, 3) := by decide +kernel
theorem dX5_boons_59 : decode cX5_boons 59 = .ok (.goto (-55), 3) := by decide +kernel
theorem dX5_boons_62 : decode cX5_boons 62 = .ok (.lload_n 1, 1) := by decide +kernel
theorem dX5_boons_63 : decode cX5_boons 63 = .ok (.lreturn, 1) := by decide +kernel
theorem dX5_capped_0 : decode cX5_capped 0 = .ok (.lload_n 1, 1) := by decide +kernel
theorem dX5_capped_1 : decode cX5_capped 1 = .ok (.lstore_n 3, 1) := by decide +kernel
theorem dX5_capped_2 : decode cX5_capped 2 = .ok (.iconst 0, 1) := by decide +kernel
theorem dX5_capped_3 : decode cX5_capped 3 = .ok (.istore 5, 2) := by decide +kernel
theorem dX5_capped_5 : decode cX5_capped 5 = .ok (.iload 5, 2) := by decide +kernel
theorem dX5_capped_7 : decode cX5_capped 7 = .ok (.aload_n 0, 1) := by decide +kernel
theorem dX5_capped_8 : decode cX5_capped 8 = .ok (.getfield 50, 3) := by decide +kernel
theorem dX5_capped_11 : decode cX5_capped 11 = .ok (.if_icmp .ge 86, 3) := by decide +kernel
theorem dX5_capped_14 : decode cX5_capped 14 = .ok (.aload_n 0, 1) := by decide +kernel
theorem dX5_capped_15 : decode cX5_capped 15 = .ok (.getfield 46, 3) := by decide +kernel
theorem dX5_capped_18 : decode cX5_capped 18 = .ok (.iload 5, 2) := by decide +kernel
theorem dX5_capped_20 : decode cX5_capped 20 = .ok (.aaload, 1) := by decide +kernel
theorem dX5_capped_21 : decode cX5_capped 21 = .ok (.astore 7, 2) := by decide +kernel
theorem dX5_capped_23 : decode cX5_capped 23 = .ok (.aload 7, 2) := by decide +kernel
theorem dX5_capped_25 : decode cX5_capped 25 = .ok (.instanceof 192, 3) := by decide +kernel
theorem dX5_capped_28 : decode cX5_capped 28 = .ok (.ifCond .eq 63, 3) := by decide +kernel
theorem dX5_capped_31 : decode cX5_capped 31 = .ok (.aload 7, 2) := by decide +kernel
theorem dX5_capped_33 : decode cX5_capped 33 = .ok (.checkcast 192, 3) := by decide +kernel
theorem dX5_capped_36 : decode cX5_capped 36 = .ok (.astore 6, 2) := by decide +kernel
theorem dX5_capped_38 : decode cX5_capped 38 = .ok (.aload 6, 2) := by decide +kernel
theorem dX5_capped_40 : decode cX5_capped 40 = .ok (.getfield 194, 3) := by decide +kernel
theorem dX5_capped_43 : decode cX5_capped 43 = .ok (.ifCond .ne 48, 3) := by decide +kernel
theorem dX5_capped_46 : decode cX5_capped 46 = .ok (.aload_n 0, 1) := by decide +kernel
theorem dX5_capped_47 : decode cX5_capped 47 = .ok (.getfield 18, 3) := by decide +kernel
theorem dX5_capped_50 : decode cX5_capped 50 = .ok (.aload 6, 2) := by decide +kernel
theorem dX5_capped_52 : decode cX5_capped 52 = .ok (.getfield 198, 3) := by decide +kernel
theorem dX5_capped_55 : decode cX5_capped 55 = .ok (.lload_n 3, 1) := by decide +kernel
theorem dX5_capped_56 : decode cX5_capped 56 = .ok (.aload_n 0, 1) := by decide +kernel
theorem dX5_capped_57 : decode cX5_capped 57 = .ok (.getfield 15, 3) := by decide +kernel
theorem dX5_capped_60 : decode cX5_capped 60 = .ok (.aload 6, 2) := by decide +kernel
theorem dX5_capped_62 : decode cX5_capped 62 = .ok (.getfield 198, 3) := by decide +kernel
theorem dX5_capped_65 : decode cX5_capped 65 = .ok (.laload, 1) := by decide +kernel
theorem dX5_capped_66 : decode cX5_capped 66 = .ok (.lcmp, 1) := by decide +kernel
theorem dX5_capped_67 : decode cX5_capped 67 = .ok (.ifCond .ge 7, 3) := by decide +kernel
theorem dX5_capped_70 : decode cX5_capped 70 = .ok (.iconst 2, 1) := by decide +kernel
theorem dX5_capped_71 : decode cX5_capped 71 = .ok (.goto 4, 3) := by decide +kernel
theorem dX5_capped_74 : decode cX5_capped 74 = .ok (.iconst 4, 1) := by decide +kernel
theorem dX5_capped_75 : decode cX5_capped 75 = .ok (.iastore, 1) := by decide +kernel
theorem dX5_capped_76 : decode cX5_capped 76 = .ok (.lload_n 3, 1) := by decide +kernel
theorem dX5_capped_77 : decode cX5_capped 77 = .ok (.aload_n 0, 1) := by decide +kernel
theorem dX5_capped_78 : decode cX5_capped 78 = .ok (.getfield 15, 3) := by decide +kernel
theorem dX5_capped_81 : decode cX5_capped 81 = .ok (.aload 6, 2) := by decide +kernel
theorem dX5_capped_83 : decode cX5_capped 83 = .ok (.getfield 198, 3) := by decide +kernel
theorem dX5_capped_86 : decode cX5_capped 86 = .ok (.laload, 1) := by decide +kernel
theorem dX5_capped_87 : decode cX5_capped 87 = .ok (.invokestatic 199, 3) := by decide +kernel
theorem dX5_capped_90 : decode cX5_capped 90 = .ok (.lstore_n 3, 1) := by decide +kernel
theorem dX5_capped_91 : decode cX5_capped 91 = .ok (.iinc 5 1, 3) := by decide +kernel
theorem dX5_capped_94 : decode cX5_capped 94 = .ok (.goto (-89), 3) := by decide +kernel
theorem dX5_capped_97 : decode cX5_capped 97 = .ok (.iconst 0, 1) := by decide +kernel
theorem dX5_capped_98 : decode cX5_capped 98 = .ok (.istore 5, 2) := by decide +kernel
theorem dX5_capped_100 : decode cX5_capped 100 = .ok (.iload 5, 2) := by decide +kernel
theorem dX5_capped_102 : decode cX5_capped 102 = .ok (.aload_n 0, 1) := by decide +kernel
theorem dX5_capped_103 : decode cX5_capped 103 = .ok (.getfield 50, 3) := by decide +kernel
theorem dX5_capped_106 : decode cX5_capped 106 = .ok (.if_icmp .ge 86, 3) := by decide +kernel
theorem dX5_capped_109 : decode cX5_capped 109 = .ok (.aload_n 0, 1) := by decide +kernel
theorem dX5_capped_110 : decode cX5_capped 110 = .ok (.getfield 46, 3) := by decide +kernel
theorem dX5_capped_113 : decode cX5_capped 113 = .ok (.iload 5, 2) := by decide +kernel
theorem dX5_capped_115 : decode cX5_capped 115 = .ok (.aaload, 1) := by decide +kernel
theorem dX5_capped_116 : decode cX5_capped 116 = .ok (.astore 7, 2) := by decide +kernel
theorem dX5_capped_118 : decode cX5_capped 118 = .ok (.aload 7, 2) := by decide +kernel
theorem dX5_capped_120 : decode cX5_capped 120 = .ok (.instanceof 192, 3) := by decide +kernel
theorem dX5_capped_123 : decode cX5_capped 123 = .ok (.ifCond .eq 63, 3) := by decide +kernel
theorem dX5_capped_126 : decode cX5_capped 126 = .ok (.aload 7, 2) := by decide +kernel
theorem dX5_capped_128 : decode cX5_capped 128 = .ok (.checkcast 192, 3) := by decide +kernel
theorem dX5_capped_131 : decode cX5_capped 131 = .ok (.astore 6, 2) := by decide +kernel
theorem dX5_capped_133 : decode cX5_capped 133 = .ok (.aload 6, 2) := by decide +kernel
theorem dX5_capped_135 : decode cX5_capped 135 = .ok (.getfield 194, 3) := by decide +kernel
theorem dX5_capped_138 : decode cX5_capped 138 = .ok (.ifCond .eq 48, 3) := by decide +kernel
theorem dX5_capped_141 : decode cX5_capped 141 = .ok (.aload_n 0, 1) := by decide +kernel
theorem dX5_capped_142 : decode cX5_capped 142 = .ok (.getfield 18, 3) := by decide +kernel
theorem dX5_capped_145 : decode cX5_capped 145 = .ok (.aload 6, 2) := by decide +kernel
theorem dX5_capped_147 : decode cX5_capped 147 = .ok (.getfield 198, 3) := by decide +kernel
theorem dX5_capped_150 : decode cX5_capped 150 = .ok (.lload_n 3, 1) := by decide +kernel
theorem dX5_capped_151 : decode cX5_capped 151 = .ok (.aload_n 0, 1) := by decide +kernel
theorem dX5_capped_152 : decode cX5_capped 152 = .ok (.getfield 15, 3) := by decide +kernel
theorem dX5_capped_155 : decode cX5_capped 155 = .ok (.aload 6, 2) := by decide +kernel
theorem dX5_capped_157 : decode cX5_capped 157 = .ok (.getfield 198, 3) := by decide +kernel
theorem dX5_capped_160 : decode cX5_capped 160 = .ok (.laload, 1) := by decide +kernel
theorem dX5_capped_161 : decode cX5_capped 161 = .ok (.lcmp, 1) := by decide +kernel
theorem dX5_capped_162 : decode cX5_capped 162 = .ok (.ifCond .le 7, 3) := by decide +kernel
theorem dX5_capped_165 : decode cX5_capped 165 = .ok (.iconst 2, 1) := by decide +kernel
theorem dX5_capped_166 : decode cX5_capped 166 = .ok (.goto 4, 3) := by decide +kernel
theorem dX5_capped_169 : decode cX5_capped 169 = .ok (.iconst 4, 1) := by decide +kernel
theorem dX5_capped_170 : decode cX5_capped 170 = .ok (.iastore, 1) := by decide +kernel
theorem dX5_capped_171 : decode cX5_capped 171 = .ok (.lload_n 3, 1) := by decide +kernel
theorem dX5_capped_172 : decode cX5_capped 172 = .ok (.aload_n 0, 1) := by decide +kernel
theorem dX5_capped_173 : decode cX5_capped 173 = .ok (.getfield 15, 3) := by decide +kernel
theorem dX5_capped_176 : decode cX5_capped 176 = .ok (.aload 6, 2) := by decide +kernel
theorem dX5_capped_178 : decode cX5_capped 178 = .ok (.getfield 198, 3) := by decide +kernel
theorem dX5_capped_181 : decode cX5_capped 181 = .ok (.laload, 1) := by decide +kernel
theorem dX5_capped_182 : decode cX5_capped 182 = .ok (.invokestatic 205, 3) := by decide +kernel
theorem dX5_capped_185 : decode cX5_capped 185 = .ok (.lstore_n 3, 1) := by decide +kernel
theorem dX5_capped_186 : decode cX5_capped 186 = .ok (.iinc 5 1, 3) := by decide +kernel
theorem dX5_capped_189 : decode cX5_capped 189 = .ok (.goto (-89), 3) := by decide +kernel
theorem dX5_capped_192 : decode cX5_capped 192 = .ok (.lload_n 3, 1) := by decide +kernel
theorem dX5_capped_193 : decode cX5_capped 193 = .ok (.lreturn, 1) := by decide +kernel
theorem dX5_openedOn_0 : decode cX5_openedOn 0 = .ok (.aload_n 1, 1) := by decide +kernel
theorem dX5_openedOn_1 : decode cX5_openedOn 1 = .ok (.getfield 208, 3) := by decide +kernel
theorem dX5_openedOn_4 : decode cX5_openedOn 4 = .ok (.istore_n 3, 1) := by decide +kernel
theorem dX5_openedOn_5 : decode cX5_openedOn 5 = .ok (.iconst 0, 1) := by decide +kernel
theorem dX5_openedOn_6 : decode cX5_openedOn 6 = .ok (.istore 4, 2) := by decide +kernel
theorem dX5_openedOn_8 : decode cX5_openedOn 8 = .ok (.iconst 0, 1) := by decide +kernel
theorem dX5_openedOn_9 : decode cX5_openedOn 9 = .ok (.istore 5, 2) := by decide +kernel
theorem dX5_openedOn_11 : decode cX5_openedOn 11 = .ok (.iload 5, 2) := by decide +kernel
theorem dX5_openedOn_13 : decode cX5_openedOn 13 = .ok (.aload_n 1, 1) := by decide +kernel
theorem dX5_openedOn_14 : decode cX5_openedOn 14 = .ok (.getfield 80, 3) := by decide +kernel
theorem dX5_openedOn_17 : decode cX5_openedOn 17 = .ok (.if_icmp .ge 89, 3) := by decide +kernel
theorem dX5_openedOn_20 : decode cX5_openedOn 20 = .ok (.aload_n 1, 1) := by decide +kernel
theorem dX5_openedOn_21 : decode cX5_openedOn 21 = .ok (.getfield 83, 3) := by decide +kernel
theorem dX5_openedOn_24 : decode cX5_openedOn 24 = .ok (.iload 5, 2) := by decide +kernel
theorem dX5_openedOn_26 : decode cX5_openedOn 26 = .ok (.aaload, 1) := by decide +kernel
theorem dX5_openedOn_27 : decode cX5_openedOn 27 = .ok (.astore 6, 2) := by decide +kernel
theorem dX5_openedOn_29 : decode cX5_openedOn 29 = .ok (.aload 6, 2) := by decide +kernel
theorem dX5_openedOn_31 : decode cX5_openedOn 31 = .ok (.instanceof 211, 3) := by decide +kernel
theorem dX5_openedOn_34 : decode cX5_openedOn 34 = .ok (.ifCond .eq 66, 3) := by decide +kernel
theorem dX5_openedOn_37 : decode cX5_openedOn 37 = .ok (.aload_n 0, 1) := by decide +kernel
theorem dX5_openedOn_38 : decode cX5_openedOn 38 = .ok (.getfield 25, 3) := by decide +kernel
theorem dX5_openedOn_41 : decode cX5_openedOn 41 = .ok (.iload 5, 2) := by decide +kernel
theorem dX5_openedOn_43 : decode cX5_openedOn 43 = .ok (.invokestatic 132, 3) := by decide +kernel
theorem dX5_openedOn_46 : decode cX5_openedOn 46 = .ok (.ifCond .eq 54, 3) := by decide +kernel
theorem dX5_openedOn_49 : decode cX5_openedOn 49 = .ok (.aload 6, 2) := by decide +kernel
theorem dX5_openedOn_51 : decode cX5_openedOn 51 = .ok (.getfield 136, 3) := by decide +kernel
theorem dX5_openedOn_54 : decode cX5_openedOn 54 = .ok (.iload_n 2, 1) := by decide +kernel
theorem dX5_openedOn_55 : decode cX5_openedOn 55 = .ok (.aload_n 0, 1) := by decide +kernel
theorem dX5_openedOn_56 : decode cX5_openedOn 56 = .ok (.getfield 9, 3) := by decide +kernel
theorem dX5_openedOn_59 : decode cX5_openedOn 59 = .ok (.invokevirtual 140, 3) := by decide +kernel
theorem dX5_openedOn_62 : decode cX5_openedOn 62 = .ok (.ifCond .eq 38, 3) := by decide +kernel
theorem dX5_openedOn_65 : decode cX5_openedOn 65 = .ok (.aload 6, 2) := by decide +kernel
theorem dX5_openedOn_67 : decode cX5_openedOn 67 = .ok (.getfield 129, 3) := by decide +kernel
theorem dX5_openedOn_70 : decode cX5_openedOn 70 = .ok (.bipush 6, 2) := by decide +kernel
theorem dX5_openedOn_72 : decode cX5_openedOn 72 = .ok (.if_icmp .ne 18, 3) := by decide +kernel
theorem dX5_openedOn_75 : decode cX5_openedOn 75 = .ok (.iload 4, 2) := by decide +kernel
theorem dX5_openedOn_77 : decode cX5_openedOn 77 = .ok (.iconst 1, 1) := by decide +kernel
theorem dX5_openedOn_78 : decode cX5_openedOn 78 = .ok (.aload 6, 2) := by decide +kernel
theorem dX5_openedOn_80 : decode cX5_openedOn 80 = .ok (.getfield 146, 3) := by decide +kernel
theorem dX5_openedOn_83 : decode cX5_openedOn 83 = .ok (.ishl, 1) := by decide +kernel
theorem dX5_openedOn_84 : decode cX5_openedOn 84 = .ok (.ior, 1) := by decide +kernel
theorem dX5_openedOn_85 : decode cX5_openedOn 85 = .ok (.istore 4, 2) := by decide +kernel
theorem dX5_openedOn_87 : decode cX5_openedOn 87 = .ok (.goto 13, 3) := by decide +kernel
theorem dX5_openedOn_90 : decode cX5_openedOn 90 = .ok (.iload_n 3, 1) := by decide +kernel
theorem dX5_openedOn_91 : decode cX5_openedOn 91 = .ok (.iconst 1, 1) := by decide +kernel
theorem dX5_openedOn_92 : decode cX5_openedOn 92 = .ok (.aload 6, 2) := by decide +kernel
theorem dX5_openedOn_94 : decode cX5_openedOn 94 = .ok (.getfield 146, 3) := by decide +kernel
theorem dX5_openedOn_97 : decode cX5_openedOn 97 = .ok (.ishl, 1) := by decide +kernel
theorem dX5_openedOn_98 : decode cX5_openedOn 98 = .ok (.ior, 1) := by decide +kernel
theorem dX5_openedOn_99 : decode cX5_openedOn 99 = .ok (.istore_n 3, 1) := by decide +kernel
theorem dX5_openedOn_100 : decode cX5_openedOn 100 = .ok (.iinc 5 1, 3) := by decide +kernel
theorem dX5_openedOn_103 : decode cX5_openedOn 103 = .ok (.goto (-92), 3) := by decide +kernel
theorem dX5_openedOn_106 : decode cX5_openedOn 106 = .ok (.iload_n 3, 1) := by decide +kernel
theorem dX5_openedOn_107 : decode cX5_openedOn 107 = .ok (.iload 4, 2) := by decide +kernel
theorem dX5_openedOn_109 : decode cX5_openedOn 109 = .ok (.iconst (-1), 1) := by decide +kernel
theorem dX5_openedOn_110 : decode cX5_openedOn 110 = .ok (.ixor, 1) := by decide +kernel
theorem dX5_openedOn_111 : decode cX5_openedOn 111 = .ok (.iand, 1) := by decide +kernel
theorem dX5_openedOn_112 : decode cX5_openedOn 112 = .ok (.ireturn, 1) := by decide +kernel
theorem dX6_init_0 : decode cX6_init 0 = .ok (.aload_n 0, 1) := by decide +kernel
theorem dX6_init_1 : decode cX6_init 1 = .ok (.invokespecial 3, 3) := by decide +kernel
theorem dX6_init_4 : decode cX6_init 4 = .ok (.aload_n 0, 1) := by decide +kernel
theorem dX6_init_5 : decode cX6_init 5 = .ok (.iload_n 1, 1) := by decide +kernel
theorem dX6_init_6 : decode cX6_init 6 = .ok (.putfield 9, 3) := by decide +kernel
theorem dX6_init_9 : decode cX6_init 9 = .ok (.aload_n 0, 1) := by decide +kernel
theorem dX6_init_10 : decode cX6_init 10 = .ok (.iload_n 2, 1) := by decide +kernel
theorem dX6_init_11 : decode cX6_init 11 = .ok (.putfield 15, 3) := by decide +kernel
theorem dX6_init_14 : decode cX6_init 14 = .ok (.aload_n 0, 1) := by decide +kernel
theorem dX6_init_15 : decode cX6_init 15 = .ok (.aload_n 3, 1) := by decide +kernel
theorem dX6_init_16 : decode cX6_init 16 = .ok (.putfield 18, 3) := by decide +kernel
theorem dX6_init_19 : decode cX6_init 19 = .ok (.aload_n 0, 1) := by decide +kernel
theorem dX6_init_20 : decode cX6_init 20 = .ok (.iload 4, 2) := by decide +kernel
theorem dX6_init_22 : decode cX6_init 22 = .ok (.putfield 22, 3) := by decide +kernel
theorem dX6_init_25 : decode cX6_init 25 = .ok (.aload_n 0, 1) := by decide +kernel
theorem dX6_init_26 : decode cX6_init 26 = .ok (.iload 5, 2) := by decide +kernel
theorem dX6_init_28 : decode cX6_init 28 = .ok (.bipush 15, 2) := by decide +kernel
theorem dX6_init_30 : decode cX6_init 30 = .ok (.iand, 1) := by decide +kernel
theorem dX6_init_31 : decode cX6_init 31 = .ok (.putfield 25, 3) := by decide +kernel
theorem dX6_init_34 : decode cX6_init 34 = .ok (.aload_n 0, 1) := by decide +kernel
theorem dX6_init_35 : decode cX6_init 35 = .ok (.iload 5, 2) := by decide +kernel
theorem dX6_init_37 : decode cX6_init 37 = .ok (.iconst 4, 1) := by decide +kernel
theorem dX6_init_38 : decode cX6_init 38 = .ok (.ishr, 1) := by decide +kernel
theorem dX6_init_39 : decode cX6_init 39 = .ok (.putfield 28, 3) := by decide +kernel
theorem dX6_init_42 : decode cX6_init 42 = .ok (.aload_n 0, 1) := by decide +kernel
theorem dX6_init_43 : decode cX6_init 43 = .ok (.iload_n 1, 1) := by decide +kernel
theorem dX6_init_44 : decode cX6_init 44 = .ok (.iconst 3, 1) := by decide +kernel
theorem dX6_init_45 : decode cX6_init 45 = .ok (.if_icmp .gt 8, 3) := by decide +kernel
theorem dX6_init_48 : decode cX6_init 48 = .ok (.iload 4, 2) := by decide +kernel
theorem dX6_init_50 : decode cX6_init 50 = .ok (.goto 4, 3) := by decide +kernel
theorem dX6_init_53 : decode cX6_init 53 = .ok (.iconst (-1), 1) := by decide +kernel
theorem dX6_init_54 : decode cX6_init 54 = .ok (.putfield 31, 3) := by decide +kernel
theorem dX6_init_57 : decode cX6_init 57 = .ok (.aload_n 0, 1) := by decide +kernel
theorem dX6_init_58 : decode cX6_init 58 = .ok (.iload 6, 2) := by decide +kernel
theorem dX6_init_60 : decode cX6_init 60 = .ok (.putfield 34, 3) := by decide +kernel
theorem dX6_init_63 : decode cX6_init 63 = .ok (.aload_n 0, 1) := by decide +kernel
theorem dX6_init_64 : decode cX6_init 64 = .ok (.iload 7, 2) := by decide +kernel
theorem dX6_init_66 : decode cX6_init 66 = .ok (.iconst (-1), 1) := by decide +kernel
theorem dX6_init_67 : decode cX6_init 67 = .ok (.if_icmp .ne 7, 3) := by decide +kernel
theorem dX6_init_70 : decode cX6_init 70 = .ok (.iconst (-1), 1) := by decide +kernel
theorem dX6_init_71 : decode cX6_init 71 = .ok (.goto 8, 3) := by decide +kernel
theorem dX6_init_74 : decode cX6_init 74 = .ok (.iload 7, 2) := by decide +kernel
theorem dX6_init_76 : decode cX6_init 76 = .ok (.bipush 15, 2) := by decide +kernel
theorem dX6_init_78 : decode cX6_init 78 = .ok (.iand, 1) := by decide +kernel
theorem dX6_init_79 : decode cX6_init 79 = .ok (.putfield 37, 3) := by decide +kernel
theorem dX6_init_82 : decode cX6_init 82 = .ok (.aload_n 0, 1) := by decide +kernel
theorem dX6_init_83 : decode cX6_init 83 = .ok (.iload 7, 2) := by decide +kernel
theorem dX6_init_85 : decode cX6_init 85 = .ok (.iconst (-1), 1) := by decide +kernel
theorem dX6_init_86 : decode cX6_init 86 = .ok (.if_icmp .ne 7, 3) := by decide +kernel
theorem dX6_init_89 : decode cX6_init 89 = .ok (.iconst 0, 1) := by decide +kernel
theorem dX6_init_90 : decode cX6_init 90 = .ok (.goto 7, 3) := by decide +kernel
theorem dX6_init_93 : decode cX6_init 93 = .ok (.iload 7, 2) := by decide +kernel
theorem dX6_init_95 : decode cX6_init 95 = .ok (.iconst 4, 1) := by decide +kernel
theorem dX6_init_96 : decode cX6_init 96 = .ok (.ishr, 1) := by decide +kernel
theorem dX6_init_97 : decode cX6_init 97 = .ok (.putfield 40, 3) := by decide +kernel
theorem dX6_init_100 : decode cX6_init 100 = .ok (.return_, 1) := by decide +kernel
theorem dX6_readBits_0 : decode cX6_readBits 0 = .ok (.aload_n 0, 1) := by decide +kernel
theorem dX6_readBits_1 : decode cX6_readBits 1 = .ok (.getfield 18, 3) := by decide +kernel
theorem dX6_readBits_4 : decode cX6_readBits 4 = .ok (.invokevirtual 43, 3) := by decide +kernel
theorem dX6_readBits_7 : decode cX6_readBits 7 = .ok (.aload_n 0, 1) := by decide +kernel
theorem dX6_readBits_8 : decode cX6_readBits 8 = .ok (.getfield 37, 3) := by decide +kernel
theorem dX6_readBits_11 : decode cX6_readBits 11 = .ok (.iconst (-1), 1) := by decide +kernel
theorem dX6_readBits_12 : decode cX6_readBits 12 = .ok (.if_icmp .ne 7, 3) := by decide +kernel
theorem dX6_readBits_15 : decode cX6_readBits 15 = .ok (.iconst 0, 1) := by decide +kernel
theorem dX6_readBits_16 : decode cX6_readBits 16 = .ok (.goto 9, 3) := by decide +kernel
theorem dX6_readBits_19 : decode cX6_readBits 19 = .ok (.iconst 1, 1) := by decide +kernel
theorem dX6_readBits_20 : decode cX6_readBits 20 = .ok (.aload_n 0, 1) := by decide +kernel
theorem dX6_readBits_21 : decode cX6_readBits 21 = .ok (.getfield 37, 3) := by decide +kernel
theorem dX6_readBits_24 : decode cX6_readBits 24 = .ok (.ishl, 1) := by decide +kernel
theorem dX6_readBits_25 : decode cX6_readBits 25 = .ok (.ior, 1) := by decide +kernel
theorem dX6_readBits_26 : decode cX6_readBits 26 = .ok (.ireturn, 1) := by decide +kernel
theorem dX6_amountBy_0 : decode cX6_amountBy 0 = .ok (.aload_n 0, 1) := by decide +kernel
theorem dX6_amountBy_1 : decode cX6_amountBy 1 = .ok (.getfield 37, 3) := by decide +kernel
theorem dX6_amountBy_4 : decode cX6_amountBy 4 = .ok (.iconst (-1), 1) := by decide +kernel
theorem dX6_amountBy_5 : decode cX6_amountBy 5 = .ok (.if_icmp .ne 11, 3) := by decide +kernel
theorem dX6_amountBy_8 : decode cX6_amountBy 8 = .ok (.aload_n 0, 1) := by decide +kernel
theorem dX6_amountBy_9 : decode cX6_amountBy 9 = .ok (.getfield 34, 3) := by decide +kernel
theorem dX6_amountBy_12 : decode cX6_amountBy 12 = .ok (.i2l, 1) := by decide +kernel
theorem dX6_amountBy_13 : decode cX6_amountBy 13 = .ok (.goto 25, 3) := by decide +kernel
theorem dX6_amountBy_16 : decode cX6_amountBy 16 = .ok (.aload_n 0, 1) := by decide +kernel
theorem dX6_amountBy_17 : decode cX6_amountBy 17 = .ok (.getfield 34, 3) := by decide +kernel
theorem dX6_amountBy_20 : decode cX6_amountBy 20 = .ok (.i2l, 1) := by decide +kernel
theorem dX6_amountBy_21 : decode cX6_amountBy 21 = .ok (.aload_n 1, 1) := by decide +kernel
theorem dX6_amountBy_22 : decode cX6_amountBy 22 = .ok (.aload_n 0, 1) := by decide +kernel
theorem dX6_amountBy_23 : decode cX6_amountBy 23 = .ok (.getfield 37, 3) := by decide +kernel
theorem dX6_amountBy_26 : decode cX6_amountBy 26 = .ok (.laload, 1) := by decide +kernel
theorem dX6_amountBy_27 : decode cX6_amountBy 27 = .ok (.aload_n 0, 1) := by decide +kernel
theorem dX6_amountBy_28 : decode cX6_amountBy 28 = .ok (.getfield 40, 3) := by decide +kernel
theorem dX6_amountBy_31 : decode cX6_amountBy 31 = .ok (.i2l, 1) := by decide +kernel
theorem dX6_amountBy_32 : decode cX6_amountBy 32 = .ok (.lmul, 1) := by decide +kernel
theorem dX6_amountBy_33 : decode cX6_amountBy 33 = .ok (.ldc2_w 49, 3) := by decide +kernel
theorem dX6_amountBy_36 : decode cX6_amountBy 36 = .ok (.ldiv, 1) := by decide +kernel
theorem dX6_amountBy_37 : decode cX6_amountBy 37 = .ok (.ladd, 1) := by decide +kernel
theorem dX6_amountBy_38 : decode cX6_amountBy 38 = .ok (.lreturn, 1) := by decide +kernel
theorem dX6_begin_0 : decode cX6_begin 0 = .ok (.aload_n 1, 1) := by decide +kernel
theorem dX6_begin_1 : decode cX6_begin 1 = .ok (.iconst 0, 1) := by decide +kernel
theorem dX6_begin_2 : decode cX6_begin 2 = .ok (.iaload, 1) := by decide +kernel
theorem dX6_begin_3 : decode cX6_begin 3 = .ok (.bipush 50, 2) := by decide +kernel
theorem dX6_begin_5 : decode cX6_begin 5 = .ok (.if_icmp .ge 16, 3) := by decide +kernel
theorem dX6_begin_8 : decode cX6_begin 8 = .ok (.aload_n 1, 1) := by decide +kernel
theorem dX6_begin_9 : decode cX6_begin 9 = .ok (.iconst 0, 1) := by decide +kernel
theorem dX6_begin_10 : decode cX6_begin 10 = .ok (.dup2, 1) := by decide +kernel
theorem dX6_begin_11 : decode cX6_begin 11 = .ok (.iaload, 1) := by decide +kernel
theorem dX6_begin_12 : decode cX6_begin 12 = .ok (.iconst 1, 1) := by decide +kernel
theorem dX6_begin_13 : decode cX6_begin 13 = .ok (.iadd, 1) := by decide +kernel
theorem dX6_begin_14 : decode cX6_begin 14 = .ok (.iastore, 1) := by decide +kernel
theorem dX6_begin_15 : decode cX6_begin 15 = .ok (.aload_n 1, 1) := by decide +kernel
theorem dX6_begin_16 : decode cX6_begin 16 = .ok (.aload_n 1, 1) := by decide +kernel
theorem dX6_begin_17 : decode cX6_begin 17 = .ok (.iconst 0, 1) := by decide +kernel
theorem dX6_begin_18 : decode cX6_begin 18 = .ok (.iaload, 1) := by decide +kernel
theorem dX6_begin_19 : decode cX6_begin 19 = .ok (.iload_n 0, 1) := by decide +kernel
theorem dX6_begin_20 : decode cX6_begin 20 = .ok (.iastore, 1) := by decide +kernel
theorem dX6_begin_21 : decode cX6_begin 21 = .ok (.return_, 1) := by decide +kernel
theorem dX6_give_0 : decode cX6_give 0 = .ok (.bipush 10, 2) := by decide +kernel
theorem dX6_give_2 : decode cX6_give 2 = .ok (.aload_n 2, 1) := by decide +kernel
theorem dX6_give_3 : decode cX6_give 3 = .ok (.invokestatic 51, 3) := by decide +kernel
theorem dX6_give_6 : decode cX6_give 6 = .ok (.iload_n 1, 1) := by decide +kernel
theorem dX6_give_7 : decode cX6_give 7 = .ok (.aload_n 0, 1) := by decide +kernel
theorem dX6_give_8 : decode cX6_give 8 = .ok (.getfield 25, 3) := by decide +kernel
theorem dX6_give_11 : decode cX6_give 11 = .ok (.iadd, 1) := by decide +kernel
theorem dX6_give_12 : decode cX6_give 12 = .ok (.ireturn, 1) := by decide +kernel
theorem dX6_fit_0 : decode cX6_fit 0 = .ok (.bipush 11, 2) := by decide +kernel
theorem dX6_fit_2 : decode cX6_fit 2 = .ok (.aload_n 2, 1) := by decide +kernel
theorem dX6_fit_3 : decode cX6_fit 3 = .ok (.invokestatic 51, 3) := by decide +kernel
theorem dX6_fit_6 : decode cX6_fit 6 = .ok (.aload_n 0, 1) := by decide +kernel
theorem dX6_fit_7 : decode cX6_fit 7 = .ok (.iload_n 1, 1) := by decide +kernel
theorem dX6_fit_8 : decode cX6_fit 8 = .ok (.aload_n 2, 1) := by decide +kernel
theorem dX6_fit_9 : decode cX6_fit 9 = .ok (.invokevirtual 55, 3) := by decide +kernel
theorem dX6_fit_12 : decode cX6_fit 12 = .ok (.iconst 2, 1) := by decide +kernel
theorem dX6_fit_13 : decode cX6_fit 13 = .ok (.imul, 1) := by decide +kernel
theorem dX6_fit_14 : decode cX6_fit 14 = .ok (.ireturn, 1) := by decide +kernel
theorem dX6_open_0 : decode cX6_open 0 = .ok (.bipush 12, 2) := by decide +kernel
theorem dX6_open_2 : decode cX6_open 2 = .ok (.aload_n 2, 1) := by decide +kernel
theorem dX6_open_3 : decode cX6_open 3 = .ok (.invokestatic 51, 3) := by decide +kernel
theorem dX6_open_6 : decode cX6_open 6 = .ok (.iload_n 1, 1) := by decide +kernel
theorem dX6_open_7 : decode cX6_open 7 = .ok (.aload_n 0, 1) := by decide +kernel
theorem dX6_open_8 : decode cX6_open 8 = .ok (.getfield 28, 3) := by decide +kernel
theorem dX6_open_11 : decode cX6_open 11 = .ok (.isub, 1) := by decide +kernel
theorem dX6_open_12 : decode cX6_open 12 = .ok (.ireturn, 1) := by decide +kernel
theorem dX6_tell_0 : decode cX6_tell 0 = .ok (.bipush 13, 2) := by decide +kernel
theorem dX6_tell_2 : decode cX6_tell 2 = .ok (.aload_n 2, 1) := by decide +kernel
theorem dX6_tell_3 : decode cX6_tell 3 = .ok (.invokestatic 51, 3) := by decide +kernel
theorem dX6_tell_6 : decode cX6_tell 6 = .ok (.aload_n 0, 1) := by decide +kernel
theorem dX6_tell_7 : decode cX6_tell 7 = .ok (.iload_n 1, 1) := by decide +kernel
theorem dX6_tell_8 : decode cX6_tell 8 = .ok (.aload_n 2, 1) := by decide +kernel
theorem dX6_tell_9 : decode cX6_tell 9 = .ok (.invokevirtual 59, 3) := by decide +kernel
theorem dX6_tell_12 : decode cX6_tell 12 = .ok (.aload_n 0, 1) := by decide +kernel
theorem dX6_tell_13 : decode cX6_tell 13 = .ok (.iload_n 1, 1) := by decide +kernel
theorem dX6_tell_14 : decode cX6_tell 14 = .ok (.aload_n 2, 1) := by decide +kernel
theorem dX6_tell_15 : decode cX6_tell 15 = .ok (.invokevirtual 62, 3) := by decide +kernel
theorem dX6_tell_18 : decode cX6_tell 18 = .ok (.ixor, 1) := by decide +kernel
theorem dX6_tell_19 : decode cX6_tell 19 = .ok (.ireturn, 1) := by decide +kernel
theorem dX7_init_0 : decode cX7_init 0 = .ok (.aload_n 0, 1) := by decide +kernel
theorem dX7_init_1 : decode cX7_init 1 = .ok (.iconst 2, 1) := by decide +kernel
theorem dX7_init_2 : decode cX7_init 2 = .ok (.iload_n 1, 1) := by decide +kernel
theorem dX7_init_3 : decode cX7_init 3 = .ok (.aload_n 2, 1) := by decide +kernel
theorem dX7_init_4 : decode cX7_init 4 = .ok (.iload_n 3, 1) := by decide +kernel
theorem dX7_init_5 : decode cX7_init 5 = .ok (.iload 4, 2) := by decide +kernel
theorem dX7_init_7 : decode cX7_init 7 = .ok (.iload 5, 2) := by decide +kernel
theorem dX7_init_9 : decode cX7_init 9 = .ok (.iload 6, 2) := by decide +kernel
theorem dX7_init_11 : decode cX7_init 11 = .ok (.invokespecial 3, 3) := by decide +kernel
theorem dX7_init_14 : decode cX7_init 14 = .ok (.return_, 1) := by decide +kernel
theorem dX7_fit_0 : decode cX7_fit 0 = .ok (.bipush 30, 2) := by decide +kernel
theorem dX7_fit_2 : decode cX7_fit 2 = .ok (.aload_n 2, 1) := by decide +kernel
theorem dX7_fit_3 : decode cX7_fit 3 = .ok (.invokestatic 9, 3) := by decide +kernel
theorem dX7_fit_6 : decode cX7_fit 6 = .ok (.aload_n 0, 1) := by decide +kernel
theorem dX7_fit_7 : decode cX7_fit 7 = .ok (.iload_n 1, 1) := by decide +kernel
theorem dX7_fit_8 : decode cX7_fit 8 = .ok (.aload_n 2, 1) := by decide +kernel
theorem dX7_fit_9 : decode cX7_fit 9 = .ok (.invokespecial 15, 3) := by decide +kernel
theorem dX7_fit_12 : decode cX7_fit 12 = .ok (.aload_n 0, 1) := by decide +kernel
theorem dX7_fit_13 : decode cX7_fit 13 = .ok (.iload_n 1, 1) := by decide +kernel
theorem dX7_fit_14 : decode cX7_fit 14 = .ok (.aload_n 2, 1) := by decide +kernel
theorem dX7_fit_15 : decode cX7_fit 15 = .ok (.invokevirtual 19, 3) := by decide +kernel
theorem dX7_fit_18 : decode cX7_fit 18 = .ok (.isub, 1) := by decide +kernel
theorem dX7_fit_19 : decode cX7_fit 19 = .ok (.ireturn, 1) := by decide +kernel
theorem dX8_init_0 : decode cX8_init 0 = .ok (.aload_n 0, 1) := by decide +kernel
theorem dX8_init_1 : decode cX8_init 1 = .ok (.invokespecial 3, 3) := by decide +kernel
theorem dX8_init_4 : decode cX8_init 4 = .ok (.aload_n 0, 1) := by decide +kernel
theorem dX8_init_5 : decode cX8_init 5 = .ok (.iconst 0, 1) := by decide +kernel
theorem dX8_init_6 : decode cX8_init 6 = .ok (.putfield 9, 3) := by decide +kernel
theorem dX8_init_9 : decode cX8_init 9 = .ok (.aload_n 0, 1) := by decide +kernel
theorem dX8_init_10 : decode cX8_init 10 = .ok (.bipush 10, 2) := by decide +kernel
theorem dX8_init_12 : decode cX8_init 12 = .ok (.newarray .int, 2) := by decide +kernel
theorem dX8_init_14 : decode cX8_init 14 = .ok (.putfield 15, 3) := by decide +kernel
theorem dX8_init_17 : decode cX8_init 17 = .ok (.aload_n 0, 1) := by decide +kernel
theorem dX8_init_18 : decode cX8_init 18 = .ok (.bipush 10, 2) := by decide +kernel
theorem dX8_init_20 : decode cX8_init 20 = .ok (.newarray .int, 2) := by decide +kernel
theorem dX8_init_22 : decode cX8_init 22 = .ok (.putfield 19, 3) := by decide +kernel
theorem dX8_init_25 : decode cX8_init 25 = .ok (.aload_n 0, 1) := by decide +kernel
theorem dX8_init_26 : decode cX8_init 26 = .ok (.bipush 10, 2) := by decide +kernel
theorem dX8_init_28 : decode cX8_init 28 = .ok (.newarray .int, 2) := by decide +kernel
theorem dX8_init_30 : decode cX8_init 30 = .ok (.putfield 22, 3) := by decide +kernel
theorem dX8_init_33 : decode cX8_init 33 = .ok (.aload_n 0, 1) := by decide +kernel
theorem dX8_init_34 : decode cX8_init 34 = .ok (.bipush 10, 2) := by decide +kernel
theorem dX8_init_36 : decode cX8_init 36 = .ok (.newarray .int, 2) := by decide +kernel
theorem dX8_init_38 : decode cX8_init 38 = .ok (.putfield 25, 3) := by decide +kernel
theorem dX8_init_41 : decode cX8_init 41 = .ok (.aload_n 0, 1) := by decide +kernel
theorem dX8_init_42 : decode cX8_init 42 = .ok (.bipush 10, 2) := by decide +kernel
theorem dX8_init_44 : decode cX8_init 44 = .ok (.newarray .int, 2) := by decide +kernel
theorem dX8_init_46 : decode cX8_init 46 = .ok (.putfield 28, 3) := by decide +kernel
theorem dX8_init_49 : decode cX8_init 49 = .ok (.aload_n 0, 1) := by decide +kernel
theorem dX8_init_50 : decode cX8_init 50 = .ok (.bipush 10, 2) := by decide +kernel
theorem dX8_init_52 : decode cX8_init 52 = .ok (.newarray .int, 2) := by decide +kernel
theorem dX8_init_54 : decode cX8_init 54 = .ok (.putfield 31, 3) := by decide +kernel
theorem dX8_init_57 : decode cX8_init 57 = .ok (.aload_n 0, 1) := by decide +kernel
theorem dX8_init_58 : decode cX8_init 58 = .ok (.iconst 0, 1) := by decide +kernel
theorem dX8_init_59 : decode cX8_init 59 = .ok (.putfield 34, 3) := by decide +kernel
theorem dX8_init_62 : decode cX8_init 62 = .ok (.aload_n 0, 1) := by decide +kernel
theorem dX8_init_63 : decode cX8_init 63 = .ok (.bipush 30, 2) := by decide +kernel
theorem dX8_init_65 : decode cX8_init 65 = .ok (.anewarray 37, 3) := by decide +kernel
theorem dX8_init_68 : decode cX8_init 68 = .ok (.putfield 39, 3) := by decide +kernel
theorem dX8_init_71 : decode cX8_init 71 = .ok (.aload_n 0, 1) := by decide +kernel
theorem dX8_init_72 : decode cX8_init 72 = .ok (.iconst 0, 1) := by decide +kernel
theorem dX8_init_73 : decode cX8_init 73 = .ok (.putfield 43, 3) := by decide +kernel
theorem dX8_init_76 : decode cX8_init 76 = .ok (.aload_n 0, 1) := by decide +kernel
theorem dX8_init_77 : decode cX8_init 77 = .ok (.bipush 10, 2) := by decide +kernel
theorem dX8_init_79 : decode cX8_init 79 = .ok (.newarray .int, 2) := by decide +kernel
theorem dX8_init_81 : decode cX8_init 81 = .ok (.putfield 46, 3) := by decide +kernel
theorem dX8_init_84 : decode cX8_init 84 = .ok (.aload_n 0, 1) := by decide +kernel
theorem dX8_init_85 : decode cX8_init 85 = .ok (.bipush 10, 2) := by decide +kernel
theorem dX8_init_87 : decode cX8_init 87 = .ok (.newarray .int, 2) := by decide +kernel
theorem dX8_init_89 : decode cX8_init 89 = .ok (.putfield 49, 3) := by decide +kernel
theorem dX8_init_92 : decode cX8_init 92 = .ok (.aload_n 0, 1) := by decide +kernel
theorem dX8_init_93 : decode cX8_init 93 = .ok (.bipush 10, 2) := by decide +kernel
theorem dX8_init_95 : decode cX8_init 95 = .ok (.newarray .int, 2) := by decide +kernel
theorem dX8_init_97 : decode cX8_init 97 = .ok (.putfield 52, 3) := by decide +kernel
theorem dX8_init_100 : decode cX8_init 100 = .ok (.aload_n 0, 1) := by decide +kernel
theorem dX8_init_101 : decode cX8_init 101 = .ok (.iconst 0, 1) := by decide +kernel
theorem dX8_init_102 : decode cX8_init 102 = .ok (.putfield 55, 3) := by decide +kernel
theorem dX8_init_105 : decode cX8_init 105 = .ok (.aload_n 0, 1) := by decide +kernel
theorem dX8_init_106 : decode cX8_init 106 = .ok (.iconst 0, 1) := by decide +kernel
theorem dX8_init_107 : decode cX8_init 107 = .ok (.putfield 58, 3) := by decide +kernel
theorem dX8_init_110 : decode cX8_init 110 = .ok (.aload_n 0, 1) := by decide +kernel
theorem dX8_init_111 : decode cX8_init 111 = .ok (.iconst 0, 1) := by decide +kernel
theorem dX8_init_112 : decode cX8_init 112 = .ok (.putfield 61, 3) := by decide +kernel
theorem dX8_init_115 : decode cX8_init 115 = .ok (.aload_n 0, 1) := by decide +kernel
theorem dX8_init_116 : decode cX8_init 116 = .ok (.iconst 0, 1) := by decide +kernel
theorem dX8_init_117 : decode cX8_init 117 = .ok (.putfield 64, 3) := by decide +kernel
theorem dX8_init_120 : decode cX8_init 120 = .ok (.return_, 1) := by decide +kernel
theorem dX8_copyOf_0 : decode cX8_copyOf 0 = .ok (.aload_n 0, 1) := by decide +kernel
theorem dX8_copyOf_1 : decode cX8_copyOf 1 = .ok (.aload_n 1, 1) := by decide +kernel
theorem dX8_copyOf_2 : decode cX8_copyOf 2 = .ok (.getfield 9, 3) := by decide +kernel
theorem dX8_copyOf_5 : decode cX8_copyOf 5 = .ok (.putfield 9, 3) := by decide +kernel
theorem dX8_copyOf_8 : decode cX8_copyOf 8 = .ok (.aload_n 1, 1) := by decide +kernel
theorem dX8_copyOf_9 : decode cX8_copyOf 9 = .ok (.getfield 15, 3) := by decide +kernel
theorem dX8_copyOf_12 : decode cX8_copyOf 12 = .ok (.iconst 0, 1) := by decide +kernel
theorem dX8_copyOf_13 : decode cX8_copyOf 13 = .ok (.aload_n 0, 1) := by decide +kernel
theorem dX8_copyOf_14 : decode cX8_copyOf 14 = .ok (.getfield 15, 3) := by decide +kernel
theorem dX8_copyOf_17 : decode cX8_copyOf 17 = .ok (.iconst 0, 1) := by decide +kernel
theorem dX8_copyOf_18 : decode cX8_copyOf 18 = .ok (.bipush 10, 2) := by decide +kernel
theorem dX8_copyOf_20 : decode cX8_copyOf 20 = .ok (.invokestatic 67, 3) := by decide +kernel
theorem dX8_copyOf_23 : decode cX8_copyOf 23 = .ok (.aload_n 1, 1) := by decide +kernel
theorem dX8_copyOf_24 : decode cX8_copyOf 24 = .ok (.getfield 19, 3) := by decide +kernel
theorem dX8_copyOf_27 : decode cX8_copyOf 27 = .ok (.iconst 0, 1) := by decide +kernel
theorem dX8_copyOf_28 : decode cX8_copyOf 28 = .ok (.aload_n 0, 1) := by decide +kernel
theorem dX8_copyOf_29 : decode cX8_copyOf 29 = .ok (.getfield 19, 3) := by decide +kernel
theorem dX8_copyOf_32 : decode cX8_copyOf 32 = .ok (.iconst 0, 1) := by decide +kernel
theorem dX8_copyOf_33 : decode cX8_copyOf 33 = .ok (.bipush 10, 2) := by decide +kernel
theorem dX8_copyOf_35 : decode cX8_copyOf 35 = .ok (.invokestatic 67, 3) := by decide +kernel
theorem dX8_copyOf_38 : decode cX8_copyOf 38 = .ok (.aload_n 1, 1) := by decide +kernel
theorem dX8_copyOf_39 : decode cX8_copyOf 39 = .ok (.getfield 22, 3) := by decide +kernel
theorem dX8_copyOf_42 : decode cX8_copyOf 42 = .ok (.iconst 0, 1) := by decide +kernel
theorem dX8_copyOf_43 : decode cX8_copyOf 43 = .ok (.aload_n 0, 1) := by decide +kernel
theorem dX8_copyOf_44 : decode cX8_copyOf 44 = .ok (.getfield 22, 3) := by decide +kernel
theorem dX8_copyOf_47 : decode cX8_copyOf 47 = .ok (.iconst 0, 1) := by decide +kernel
theorem dX8_copyOf_48 : decode cX8_copyOf 48 = .ok (.bipush 10, 2) := by decide +kernel
theorem dX8_copyOf_50 : decode cX8_copyOf 50 = .ok (.invokestatic 67, 3) := by decide +kernel
theorem dX8_copyOf_53 : decode cX8_copyOf 53 = .ok (.aload_n 1, 1) := by decide +kernel
theorem dX8_copyOf_54 : decode cX8_copyOf 54 = .ok (.getfield 25, 3) := by decide +kernel
theorem dX8_copyOf_57 : decode cX8_copyOf 57 = .ok (.iconst 0, 1) := by decide +kernel
theorem dX8_copyOf_58 : decode cX8_copyOf 58 = .ok (.aload_n 0, 1) := by decide +kernel
theorem dX8_copyOf_59 : decode cX8_copyOf 59 = .ok (.getfield 25, 3) := by decide +kernel
theorem dX8_copyOf_62 : decode cX8_copyOf 62 = .ok (.iconst 0, 1) := by decide +kernel
theorem dX8_copyOf_63 : decode cX8_copyOf 63 = .ok (.bipush 10, 2) := by decide +kernel
theorem dX8_copyOf_65 : decode cX8_copyOf 65 = .ok (.invokestatic 67, 3) := by decide +kernel
theorem dX8_copyOf_68 : decode cX8_copyOf 68 = .ok (.aload_n 1, 1) := by decide +kernel
theorem dX8_copyOf_69 : decode cX8_copyOf 69 = .ok (.getfield 28, 3) := by decide +kernel
theorem dX8_copyOf_72 : decode cX8_copyOf 72 = .ok (.iconst 0, 1) := by decide +kernel
theorem dX8_copyOf_73 : decode cX8_copyOf 73 = .ok (.aload_n 0, 1) := by decide +kernel
theorem dX8_copyOf_74 : decode cX8_copyOf 74 = .ok (.getfield 28, 3) := by decide +kernel
theorem dX8_copyOf_77 : decode cX8_copyOf 77 = .ok (.iconst 0, 1) := by decide +kernel
theorem dX8_copyOf_78 : decode cX8_copyOf 78 = .ok (.bipush 10, 2) := by decide +kernel
theorem dX8_copyOf_80 : decode cX8_copyOf 80 = .ok (.invokestatic 67, 3) := by decide +kernel
theorem dX8_copyOf_83 : decode cX8_copyOf 83 = .ok (.aload_n 1, 1) := by decide +kernel
theorem dX8_copyOf_84 : decode cX8_copyOf 84 = .ok (.getfield 31, 3) := by decide +kernel
theorem dX8_copyOf_87 : decode cX8_copyOf 87 = .ok (.iconst 0, 1) := by decide +kernel
theorem dX8_copyOf_88 : decode cX8_copyOf 88 = .ok (.aload_n 0, 1) := by decide +kernel
theorem dX8_copyOf_89 : decode cX8_copyOf 89 = .ok (.getfield 31, 3) := by decide +kernel
theorem dX8_copyOf_92 : decode cX8_copyOf 92 = .ok (.iconst 0, 1) := by decide +kernel
theorem dX8_copyOf_93 : decode cX8_copyOf 93 = .ok (.bipush 10, 2) := by decide +kernel
theorem dX8_copyOf_95 : decode cX8_copyOf 95 = .ok (.invokestatic 67, 3) := by decide +kernel
theorem dX8_copyOf_98 : decode cX8_copyOf 98 = .ok (.aload_n 0, 1) := by decide +kernel
theorem dX8_copyOf_99 : decode cX8_copyOf 99 = .ok (.aload_n 1, 1) := by decide +kernel
theorem dX8_copyOf_100 : decode cX8_copyOf 100 = .ok (.getfield 34, 3) := by decide +kernel
theorem dX8_copyOf_103 : decode cX8_copyOf 103 = .ok (.putfield 34, 3) := by decide +kernel
theorem dX8_copyOf_106 : decode cX8_copyOf 106 = .ok (.iconst 0, 1) := by decide +kernel
theorem dX8_copyOf_107 : decode cX8_copyOf 107 = .ok (.istore_n 2, 1) := by decide +kernel
theorem dX8_copyOf_108 : decode cX8_copyOf 108 = .ok (.iload_n 2, 1) := by decide +kernel
theorem dX8_copyOf_109 : decode cX8_copyOf 109 = .ok (.bipush 30, 2) := by decide +kernel
theorem dX8_copyOf_111 : decode cX8_copyOf 111 = .ok (.if_icmp .ge 21, 3) := by decide +kernel
theorem dX8_copyOf_114 : decode cX8_copyOf 114 = .ok (.aload_n 0, 1) := by decide +kernel
theorem dX8_copyOf_115 : decode cX8_copyOf 115 = .ok (.getfield 39, 3) := by decide +kernel
theorem dX8_copyOf_118 : decode cX8_copyOf 118 = .ok (.iload_n 2, 1) := by decide +kernel
theorem dX8_copyOf_119 : decode cX8_copyOf 119 = .ok (.aload_n 1, 1) := by decide +kernel
theorem dX8_copyOf_120 : decode cX8_copyOf 120 = .ok (.getfield 39, 3) := by decide +kernel
theorem dX8_copyOf_123 : decode cX8_copyOf 123 = .ok (.iload_n 2, 1) := by decide +kernel
theorem dX8_copyOf_124 : decode cX8_copyOf 124 = .ok (.aaload, 1) := by decide +kernel
theorem dX8_copyOf_125 : decode cX8_copyOf 125 = .ok (.aastore, 1) := by decide +kernel
theorem dX8_copyOf_126 : decode cX8_copyOf 126 = .ok (.iinc 2 1, 3) := by decide +kernel
theorem dX8_copyOf_129 : decode cX8_copyOf 129 = .ok (.goto (-21), 3) := by decide +kernel
theorem dX8_copyOf_132 : decode cX8_copyOf 132 = .ok (.aload_n 0, 1) := by decide +kernel
theorem dX8_copyOf_133 : decode cX8_copyOf 133 = .ok (.aload_n 1, 1) := by decide +kernel
theorem dX8_copyOf_134 : decode cX8_copyOf 134 = .ok (.getfield 43, 3) := by decide +kernel
theorem dX8_copyOf_137 : decode cX8_copyOf 137 = .ok (.putfield 43, 3) := by decide +kernel
theorem dX8_copyOf_140 : decode cX8_copyOf 140 = .ok (.aload_n 1, 1) := by decide +kernel
theorem dX8_copyOf_141 : decode cX8_copyOf 141 = .ok (.getfield 46, 3) := by decide +kernel
theorem dX8_copyOf_144 : decode cX8_copyOf 144 = .ok (.iconst 0, 1) := by decide +kernel
theorem dX8_copyOf_145 : decode cX8_copyOf 145 = .ok (.aload_n 0, 1) := by decide +kernel
theorem dX8_copyOf_146 : decode cX8_copyOf 146 = .ok (.getfield 46, 3) := by decide +kernel
theorem dX8_copyOf_149 : decode cX8_copyOf 149 = .ok (.iconst 0, 1) := by decide +kernel
theorem dX8_copyOf_150 : decode cX8_copyOf 150 = .ok (.bipush 10, 2) := by decide +kernel
theorem dX8_copyOf_152 : decode cX8_copyOf 152 = .ok (.invokestatic 67, 3) := by decide +kernel
theorem dX8_copyOf_155 : decode cX8_copyOf 155 = .ok (.aload_n 1, 1) := by decide +kernel
theorem dX8_copyOf_156 : decode cX8_copyOf 156 = .ok (.getfield 49, 3) := by decide +kernel
theorem dX8_copyOf_159 : decode cX8_copyOf 159 = .ok (.iconst 0, 1) := by decide +kernel
theorem dX8_copyOf_160 : decode cX8_copyOf 160 = .ok (.aload_n 0, 1) := by decide +kernel
theorem dX8_copyOf_161 : decode cX8_copyOf 161 = .ok (.getfield 49, 3) := by decide +kernel
theorem dX8_copyOf_164 : decode cX8_copyOf 164 = .ok (.iconst 0, 1) := by decide +kernel
theorem dX8_copyOf_165 : decode cX8_copyOf 165 = .ok (.bipush 10, 2) := by decide +kernel
theorem dX8_copyOf_167 : decode cX8_copyOf 167 = .ok (.invokestatic 67, 3) := by decide +kernel
theorem dX8_copyOf_170 : decode cX8_copyOf 170 = .ok (.aload_n 1, 1) := by decide +kernel
theorem dX8_copyOf_171 : decode cX8_copyOf 171 = .ok (.getfield 52, 3) := by decide +kernel
theorem dX8_copyOf_174 : decode cX8_copyOf 174 = .ok (.iconst 0, 1) := by decide +kernel
theorem dX8_copyOf_175 : decode cX8_copyOf 175 = .ok (.aload_n 0, 1) := by decide +kernel
theorem dX8_copyOf_176 : decode cX8_copyOf 176 = .ok (.getfield 52, 3) := by decide +kernel
theorem dX8_copyOf_179 : decode cX8_copyOf 179 = .ok (.iconst 0, 1) := by decide +kernel
theorem dX8_copyOf_180 : decode cX8_copyOf 180 = .ok (.bipush 10, 2) := by decide +kernel
theorem dX8_copyOf_182 : decode cX8_copyOf 182 = .ok (.invokestatic 67, 3) := by decide +kernel
theorem dX8_copyOf_185 : decode cX8_copyOf 185 = .ok (.aload_n 0, 1) := by decide +kernel
theorem dX8_copyOf_186 : decode cX8_copyOf 186 = .ok (.aload_n 1, 1) := by decide +kernel
theorem dX8_copyOf_187 : decode cX8_copyOf 187 = .ok (.getfield 55, 3) := by decide +kernel
theorem dX8_copyOf_190 : decode cX8_copyOf 190 = .ok (.putfield 55, 3) := by decide +kernel
theorem dX8_copyOf_193 : decode cX8_copyOf 193 = .ok (.aload_n 0, 1) := by decide +kernel
theorem dX8_copyOf_194 : decode cX8_copyOf 194 = .ok (.aload_n 1, 1) := by decide +kernel
theorem dX8_copyOf_195 : decode cX8_copyOf 195 = .ok (.getfield 58, 3) := by decide +kernel
theorem dX8_copyOf_198 : decode cX8_copyOf 198 = .ok (.putfield 58, 3) := by decide +kernel
theorem dX8_copyOf_201 : decode cX8_copyOf 201 = .ok (.aload_n 0, 1) := by decide +kernel
