theorem dX12_stack_18 : decode cX12_stack 18 = .ok (.aload_n 0, 1) := by decide +kernel
theorem dX12_stack_19 : decode cX12_stack 19 = .ok (.getfield 70, 3) := by decide +kernel
theorem dX12_stack_22 : decode cX12_stack 22 = .ok (.iconst 5, 1) := by decide +kernel
theorem dX12_stack_23 : decode cX12_stack 23 = .ok (.iaload, 1) := by decide +kernel
theorem dX12_stack_24 : decode cX12_stack 24 = .ok (.istore_n 3, 1) := by decide +kernel
theorem dX12_stack_25 : decode cX12_stack 25 = .ok (.aload_n 0, 1) := by decide +kernel
theorem dX12_stack_26 : decode cX12_stack 26 = .ok (.getfield 70, 3) := by decide +kernel
theorem dX12_stack_29 : decode cX12_stack 29 = .ok (.iconst 5, 1) := by decide +kernel
theorem dX12_stack_30 : decode cX12_stack 30 = .ok (.iload_n 2, 1) := by decide +kernel
theorem dX12_stack_31 : decode cX12_stack 31 = .ok (.ifCond .eq 11, 3) := by decide +kernel
theorem dX12_stack_34 : decode cX12_stack 34 = .ok (.iload_n 3, 1) := by decide +kernel
theorem dX12_stack_35 : decode cX12_stack 35 = .ok (.iconst 1, 1) := by decide +kernel
theorem dX12_stack_36 : decode cX12_stack 36 = .ok (.iload_n 1, 1) := by decide +kernel
theorem dX12_stack_37 : decode cX12_stack 37 = .ok (.ishl, 1) := by decide +kernel
theorem dX12_stack_38 : decode cX12_stack 38 = .ok (.ior, 1) := by decide +kernel
theorem dX12_stack_39 : decode cX12_stack 39 = .ok (.goto 10, 3) := by decide +kernel
theorem dX12_stack_42 : decode cX12_stack 42 = .ok (.iload_n 3, 1) := by decide +kernel
theorem dX12_stack_43 : decode cX12_stack 43 = .ok (.iconst 1, 1) := by decide +kernel
theorem dX12_stack_44 : decode cX12_stack 44 = .ok (.iload_n 1, 1) := by decide +kernel
theorem dX12_stack_45 : decode cX12_stack 45 = .ok (.ishl, 1) := by decide +kernel
theorem dX12_stack_46 : decode cX12_stack 46 = .ok (.iconst (-1), 1) := by decide +kernel
theorem dX12_stack_47 : decode cX12_stack 47 = .ok (.ixor, 1) := by decide +kernel
theorem dX12_stack_48 : decode cX12_stack 48 = .ok (.iand, 1) := by decide +kernel
theorem dX12_stack_49 : decode cX12_stack 49 = .ok (.iastore, 1) := by decide +kernel
theorem dX12_stack_50 : decode cX12_stack 50 = .ok (.aload_n 0, 1) := by decide +kernel
theorem dX12_stack_51 : decode cX12_stack 51 = .ok (.iconst 0, 1) := by decide +kernel
theorem dX12_stack_52 : decode cX12_stack 52 = .ok (.putfield 153, 3) := by decide +kernel
theorem dX12_stack_55 : decode cX12_stack 55 = .ok (.aload_n 0, 1) := by decide +kernel
theorem dX12_stack_56 : decode cX12_stack 56 = .ok (.iload_n 3, 1) := by decide +kernel
theorem dX12_stack_57 : decode cX12_stack 57 = .ok (.aload_n 0, 1) := by decide +kernel
theorem dX12_stack_58 : decode cX12_stack 58 = .ok (.getfield 70, 3) := by decide +kernel
theorem dX12_stack_61 : decode cX12_stack 61 = .ok (.iconst 5, 1) := by decide +kernel
theorem dX12_stack_62 : decode cX12_stack 62 = .ok (.iaload, 1) := by decide +kernel
theorem dX12_stack_63 : decode cX12_stack 63 = .ok (.if_icmp .ne 7, 3) := by decide +kernel
theorem dX12_stack_66 : decode cX12_stack 66 = .ok (.iconst 0, 1) := by decide +kernel
theorem dX12_stack_67 : decode cX12_stack 67 = .ok (.goto 4, 3) := by decide +kernel
theorem dX12_stack_70 : decode cX12_stack 70 = .ok (.iconst 1, 1) := by decide +kernel
theorem dX12_stack_71 : decode cX12_stack 71 = .ok (.invokevirtual 157, 3) := by decide +kernel
theorem dX12_stack_74 : decode cX12_stack 74 = .ok (.ireturn, 1) := by decide +kernel
theorem dX12_bits_0 : decode cX12_bits 0 = .ok (.iconst 0, 1) := by decide +kernel
theorem dX12_bits_1 : decode cX12_bits 1 = .ok (.istore_n 1, 1) := by decide +kernel
theorem dX12_bits_2 : decode cX12_bits 2 = .ok (.iconst 0, 1) := by decide +kernel
theorem dX12_bits_3 : decode cX12_bits 3 = .ok (.istore_n 2, 1) := by decide +kernel
theorem dX12_bits_4 : decode cX12_bits 4 = .ok (.iload_n 2, 1) := by decide +kernel
theorem dX12_bits_5 : decode cX12_bits 5 = .ok (.bipush 8, 2) := by decide +kernel
theorem dX12_bits_7 : decode cX12_bits 7 = .ok (.if_icmp .ge 17, 3) := by decide +kernel
theorem dX12_bits_10 : decode cX12_bits 10 = .ok (.iload_n 1, 1) := by decide +kernel
theorem dX12_bits_11 : decode cX12_bits 11 = .ok (.iload_n 0, 1) := by decide +kernel
theorem dX12_bits_12 : decode cX12_bits 12 = .ok (.iload_n 2, 1) := by decide +kernel
theorem dX12_bits_13 : decode cX12_bits 13 = .ok (.ishr, 1) := by decide +kernel
theorem dX12_bits_14 : decode cX12_bits 14 = .ok (.iconst 1, 1) := by decide +kernel
theorem dX12_bits_15 : decode cX12_bits 15 = .ok (.iand, 1) := by decide +kernel
theorem dX12_bits_16 : decode cX12_bits 16 = .ok (.iadd, 1) := by decide +kernel
theorem dX12_bits_17 : decode cX12_bits 17 = .ok (.istore_n 1, 1) := by decide +kernel
theorem dX12_bits_18 : decode cX12_bits 18 = .ok (.iinc 2 1, 3) := by decide +kernel
theorem dX12_bits_21 : decode cX12_bits 21 = .ok (.goto (-17), 3) := by decide +kernel
theorem dX12_bits_24 : decode cX12_bits 24 = .ok (.iload_n 1, 1) := by decide +kernel
theorem dX12_bits_25 : decode cX12_bits 25 = .ok (.ireturn, 1) := by decide +kernel
theorem dX12_make_0 : decode cX12_make 0 = .ok (.iload_n 1, 1) := by decide +kernel
theorem dX12_make_1 : decode cX12_make 1 = .ok (.invokestatic 160, 3) := by decide +kernel
theorem dX12_make_4 : decode cX12_make 4 = .ok (.ifCond .ne 9, 3) := by decide +kernel
theorem dX12_make_7 : decode cX12_make 7 = .ok (.aload_n 0, 1) := by decide +kernel
theorem dX12_make_8 : decode cX12_make 8 = .ok (.iconst 1, 1) := by decide +kernel
theorem dX12_make_9 : decode cX12_make 9 = .ok (.invokevirtual 149, 3) := by decide +kernel
theorem dX12_make_12 : decode cX12_make 12 = .ok (.ireturn, 1) := by decide +kernel
theorem dX12_make_13 : decode cX12_make 13 = .ok (.aload_n 0, 1) := by decide +kernel
theorem dX12_make_14 : decode cX12_make 14 = .ok (.getfield 70, 3) := by decide +kernel
theorem dX12_make_17 : decode cX12_make 17 = .ok (.iconst 3, 1) := by decide +kernel
theorem dX12_make_18 : decode cX12_make 18 = .ok (.iaload, 1) := by decide +kernel
theorem dX12_make_19 : decode cX12_make 19 = .ok (.iload_n 1, 1) := by decide +kernel
theorem dX12_make_20 : decode cX12_make 20 = .ok (.ishr, 1) := by decide +kernel
theorem dX12_make_21 : decode cX12_make 21 = .ok (.iconst 1, 1) := by decide +kernel
theorem dX12_make_22 : decode cX12_make 22 = .ok (.iand, 1) := by decide +kernel
theorem dX12_make_23 : decode cX12_make 23 = .ok (.iload_n 2, 1) := by decide +kernel
theorem dX12_make_24 : decode cX12_make 24 = .ok (.ifCond .eq 7, 3) := by decide +kernel
theorem dX12_make_27 : decode cX12_make 27 = .ok (.iconst 1, 1) := by decide +kernel
theorem dX12_make_28 : decode cX12_make 28 = .ok (.goto 4, 3) := by decide +kernel
theorem dX12_make_31 : decode cX12_make 31 = .ok (.iconst 0, 1) := by decide +kernel
theorem dX12_make_32 : decode cX12_make 32 = .ok (.if_icmp .ne 9, 3) := by decide +kernel
theorem dX12_make_35 : decode cX12_make 35 = .ok (.aload_n 0, 1) := by decide +kernel
theorem dX12_make_36 : decode cX12_make 36 = .ok (.iconst 3, 1) := by decide +kernel
theorem dX12_make_37 : decode cX12_make 37 = .ok (.invokevirtual 149, 3) := by decide +kernel
theorem dX12_make_40 : decode cX12_make 40 = .ok (.ireturn, 1) := by decide +kernel
theorem dX12_make_41 : decode cX12_make 41 = .ok (.aload_n 0, 1) := by decide +kernel
theorem dX12_make_42 : decode cX12_make 42 = .ok (.getfield 70, 3) := by decide +kernel
theorem dX12_make_45 : decode cX12_make 45 = .ok (.iconst 3, 1) := by decide +kernel
theorem dX12_make_46 : decode cX12_make 46 = .ok (.dup2, 1) := by decide +kernel
theorem dX12_make_47 : decode cX12_make 47 = .ok (.iaload, 1) := by decide +kernel
theorem dX12_make_48 : decode cX12_make 48 = .ok (.iconst 1, 1) := by decide +kernel
theorem dX12_make_49 : decode cX12_make 49 = .ok (.iload_n 1, 1) := by decide +kernel
theorem dX12_make_50 : decode cX12_make 50 = .ok (.ishl, 1) := by decide +kernel
theorem dX12_make_51 : decode cX12_make 51 = .ok (.ixor, 1) := by decide +kernel
theorem dX12_make_52 : decode cX12_make 52 = .ok (.iastore, 1) := by decide +kernel
theorem dX12_make_53 : decode cX12_make 53 = .ok (.aload_n 0, 1) := by decide +kernel
theorem dX12_make_54 : decode cX12_make 54 = .ok (.aload_n 0, 1) := by decide +kernel
theorem dX12_make_55 : decode cX12_make 55 = .ok (.getfield 70, 3) := by decide +kernel
theorem dX12_make_58 : decode cX12_make 58 = .ok (.iconst 3, 1) := by decide +kernel
theorem dX12_make_59 : decode cX12_make 59 = .ok (.iaload, 1) := by decide +kernel
theorem dX12_make_60 : decode cX12_make 60 = .ok (.invokestatic 203, 3) := by decide +kernel
theorem dX12_make_63 : decode cX12_make 63 = .ok (.invokevirtual 157, 3) := by decide +kernel
theorem dX12_make_66 : decode cX12_make 66 = .ok (.ireturn, 1) := by decide +kernel
theorem dX12_spell_0 : decode cX12_spell 0 = .ok (.aload_n 0, 1) := by decide +kernel
theorem dX12_spell_1 : decode cX12_spell 1 = .ok (.iload_n 1, 1) := by decide +kernel
theorem dX12_spell_2 : decode cX12_spell 2 = .ok (.invokevirtual 170, 3) := by decide +kernel
theorem dX12_spell_5 : decode cX12_spell 5 = .ok (.ifCond .eq 29, 3) := by decide +kernel
theorem dX12_spell_8 : decode cX12_spell 8 = .ok (.iload_n 2, 1) := by decide +kernel
theorem dX12_spell_9 : decode cX12_spell 9 = .ok (.i2l, 1) := by decide +kernel
theorem dX12_spell_10 : decode cX12_spell 10 = .ok (.ldc2_w 206, 3) := by decide +kernel
theorem dX12_spell_13 : decode cX12_spell 13 = .ok (.ldc2_w 188, 3) := by decide +kernel
theorem dX12_spell_16 : decode cX12_spell 16 = .ok (.invokestatic 135, 3) := by decide +kernel
theorem dX12_spell_19 : decode cX12_spell 19 = .ok (.ifCond .eq 15, 3) := by decide +kernel
theorem dX12_spell_22 : decode cX12_spell 22 = .ok (.iload_n 3, 1) := by decide +kernel
theorem dX12_spell_23 : decode cX12_spell 23 = .ok (.i2l, 1) := by decide +kernel
theorem dX12_spell_24 : decode cX12_spell 24 = .ok (.lconst 1, 1) := by decide +kernel
theorem dX12_spell_25 : decode cX12_spell 25 = .ok (.ldc2_w 188, 3) := by decide +kernel
theorem dX12_spell_28 : decode cX12_spell 28 = .ok (.invokestatic 135, 3) := by decide +kernel
theorem dX12_spell_31 : decode cX12_spell 31 = .ok (.ifCond .ne 9, 3) := by decide +kernel
theorem dX12_spell_34 : decode cX12_spell 34 = .ok (.aload_n 0, 1) := by decide +kernel
theorem dX12_spell_35 : decode cX12_spell 35 = .ok (.iconst 1, 1) := by decide +kernel
theorem dX12_spell_36 : decode cX12_spell 36 = .ok (.invokevirtual 149, 3) := by decide +kernel
theorem dX12_spell_39 : decode cX12_spell 39 = .ok (.ireturn, 1) := by decide +kernel
theorem dX12_spell_40 : decode cX12_spell 40 = .ok (.aload_n 0, 1) := by decide +kernel
theorem dX12_spell_41 : decode cX12_spell 41 = .ok (.getfield 70, 3) := by decide +kernel
theorem dX12_spell_44 : decode cX12_spell 44 = .ok (.iconst 2, 1) := by decide +kernel
theorem dX12_spell_45 : decode cX12_spell 45 = .ok (.iaload, 1) := by decide +kernel
theorem dX12_spell_46 : decode cX12_spell 46 = .ok (.bipush 10, 2) := by decide +kernel
theorem dX12_spell_48 : decode cX12_spell 48 = .ok (.if_icmp .ne 9, 3) := by decide +kernel
theorem dX12_spell_51 : decode cX12_spell 51 = .ok (.aload_n 0, 1) := by decide +kernel
theorem dX12_spell_52 : decode cX12_spell 52 = .ok (.iconst 2, 1) := by decide +kernel
theorem dX12_spell_53 : decode cX12_spell 53 = .ok (.invokevirtual 149, 3) := by decide +kernel
theorem dX12_spell_56 : decode cX12_spell 56 = .ok (.ireturn, 1) := by decide +kernel
theorem dX12_spell_57 : decode cX12_spell 57 = .ok (.aload_n 0, 1) := by decide +kernel
theorem dX12_spell_58 : decode cX12_spell 58 = .ok (.getfield 61, 3) := by decide +kernel
theorem dX12_spell_61 : decode cX12_spell 61 = .ok (.aload_n 0, 1) := by decide +kernel
theorem dX12_spell_62 : decode cX12_spell 62 = .ok (.getfield 70, 3) := by decide +kernel
theorem dX12_spell_65 : decode cX12_spell 65 = .ok (.iconst 2, 1) := by decide +kernel
theorem dX12_spell_66 : decode cX12_spell 66 = .ok (.iaload, 1) := by decide +kernel
theorem dX12_spell_67 : decode cX12_spell 67 = .ok (.iload_n 1, 1) := by decide +kernel
theorem dX12_spell_68 : decode cX12_spell 68 = .ok (.iastore, 1) := by decide +kernel
theorem dX12_spell_69 : decode cX12_spell 69 = .ok (.aload_n 0, 1) := by decide +kernel
theorem dX12_spell_70 : decode cX12_spell 70 = .ok (.getfield 64, 3) := by decide +kernel
theorem dX12_spell_73 : decode cX12_spell 73 = .ok (.aload_n 0, 1) := by decide +kernel
theorem dX12_spell_74 : decode cX12_spell 74 = .ok (.getfield 70, 3) := by decide +kernel
theorem dX12_spell_77 : decode cX12_spell 77 = .ok (.iconst 2, 1) := by decide +kernel
theorem dX12_spell_78 : decode cX12_spell 78 = .ok (.iaload, 1) := by decide +kernel
theorem dX12_spell_79 : decode cX12_spell 79 = .ok (.iload_n 2, 1) := by decide +kernel
theorem dX12_spell_80 : decode cX12_spell 80 = .ok (.iastore, 1) := by decide +kernel
theorem dX12_spell_81 : decode cX12_spell 81 = .ok (.aload_n 0, 1) := by decide +kernel
theorem dX12_spell_82 : decode cX12_spell 82 = .ok (.getfield 67, 3) := by decide +kernel
theorem dX12_spell_85 : decode cX12_spell 85 = .ok (.aload_n 0, 1) := by decide +kernel
theorem dX12_spell_86 : decode cX12_spell 86 = .ok (.getfield 70, 3) := by decide +kernel
theorem dX12_spell_89 : decode cX12_spell 89 = .ok (.iconst 2, 1) := by decide +kernel
theorem dX12_spell_90 : decode cX12_spell 90 = .ok (.iaload, 1) := by decide +kernel
theorem dX12_spell_91 : decode cX12_spell 91 = .ok (.aload_n 0, 1) := by decide +kernel
theorem dX12_spell_92 : decode cX12_spell 92 = .ok (.getfield 70, 3) := by decide +kernel
theorem dX12_spell_95 : decode cX12_spell 95 = .ok (.bipush 6, 2) := by decide +kernel
theorem dX12_spell_97 : decode cX12_spell 97 = .ok (.iaload, 1) := by decide +kernel
theorem dX12_spell_98 : decode cX12_spell 98 = .ok (.iload_n 3, 1) := by decide +kernel
theorem dX12_spell_99 : decode cX12_spell 99 = .ok (.iadd, 1) := by decide +kernel
theorem dX12_spell_100 : decode cX12_spell 100 = .ok (.iastore, 1) := by decide +kernel
theorem dX12_spell_101 : decode cX12_spell 101 = .ok (.aload_n 0, 1) := by decide +kernel
theorem dX12_spell_102 : decode cX12_spell 102 = .ok (.getfield 70, 3) := by decide +kernel
theorem dX12_spell_105 : decode cX12_spell 105 = .ok (.iconst 2, 1) := by decide +kernel
theorem dX12_spell_106 : decode cX12_spell 106 = .ok (.dup2, 1) := by decide +kernel
theorem dX12_spell_107 : decode cX12_spell 107 = .ok (.iaload, 1) := by decide +kernel
theorem dX12_spell_108 : decode cX12_spell 108 = .ok (.iconst 1, 1) := by decide +kernel
theorem dX12_spell_109 : decode cX12_spell 109 = .ok (.iadd, 1) := by decide +kernel
theorem dX12_spell_110 : decode cX12_spell 110 = .ok (.iastore, 1) := by decide +kernel
theorem dX12_spell_111 : decode cX12_spell 111 = .ok (.aload_n 0, 1) := by decide +kernel
theorem dX12_spell_112 : decode cX12_spell 112 = .ok (.iconst 0, 1) := by decide +kernel
theorem dX12_spell_113 : decode cX12_spell 113 = .ok (.putfield 153, 3) := by decide +kernel
theorem dX12_spell_116 : decode cX12_spell 116 = .ok (.aload_n 0, 1) := by decide +kernel
theorem dX12_spell_117 : decode cX12_spell 117 = .ok (.aload_n 0, 1) := by decide +kernel
theorem dX12_spell_118 : decode cX12_spell 118 = .ok (.getfield 70, 3) := by decide +kernel
theorem dX12_spell_121 : decode cX12_spell 121 = .ok (.iconst 2, 1) := by decide +kernel
theorem dX12_spell_122 : decode cX12_spell 122 = .ok (.iaload, 1) := by decide +kernel
theorem dX12_spell_123 : decode cX12_spell 123 = .ok (.invokevirtual 157, 3) := by decide +kernel
theorem dX12_spell_126 : decode cX12_spell 126 = .ok (.ireturn, 1) := by decide +kernel
theorem dX12_turn_0 : decode cX12_turn 0 = .ok (.aload_n 0, 1) := by decide +kernel
theorem dX12_turn_1 : decode cX12_turn 1 = .ok (.getfield 70, 3) := by decide +kernel
theorem dX12_turn_4 : decode cX12_turn 4 = .ok (.bipush 6, 2) := by decide +kernel
theorem dX12_turn_6 : decode cX12_turn 6 = .ok (.iaload, 1) := by decide +kernel
theorem dX12_turn_7 : decode cX12_turn 7 = .ok (.sipush 1000, 3) := by decide +kernel
theorem dX12_turn_10 : decode cX12_turn 10 = .ok (.if_icmp .ne 9, 3) := by decide +kernel
theorem dX12_turn_13 : decode cX12_turn 13 = .ok (.aload_n 0, 1) := by decide +kernel
theorem dX12_turn_14 : decode cX12_turn 14 = .ok (.iconst 2, 1) := by decide +kernel
theorem dX12_turn_15 : decode cX12_turn 15 = .ok (.invokevirtual 149, 3) := by decide +kernel
theorem dX12_turn_18 : decode cX12_turn 18 = .ok (.ireturn, 1) := by decide +kernel
theorem dX12_turn_19 : decode cX12_turn 19 = .ok (.aload_n 0, 1) := by decide +kernel
theorem dX12_turn_20 : decode cX12_turn 20 = .ok (.getfield 70, 3) := by decide +kernel
theorem dX12_turn_23 : decode cX12_turn 23 = .ok (.bipush 6, 2) := by decide +kernel
theorem dX12_turn_25 : decode cX12_turn 25 = .ok (.dup2, 1) := by decide +kernel
theorem dX12_turn_26 : decode cX12_turn 26 = .ok (.iaload, 1) := by decide +kernel
theorem dX12_turn_27 : decode cX12_turn 27 = .ok (.iconst 1, 1) := by decide +kernel
theorem dX12_turn_28 : decode cX12_turn 28 = .ok (.iadd, 1) := by decide +kernel
theorem dX12_turn_29 : decode cX12_turn 29 = .ok (.iastore, 1) := by decide +kernel
theorem dX12_turn_30 : decode cX12_turn 30 = .ok (.iconst 0, 1) := by decide +kernel
theorem dX12_turn_31 : decode cX12_turn 31 = .ok (.istore_n 1, 1) := by decide +kernel
theorem dX12_turn_32 : decode cX12_turn 32 = .ok (.iconst 0, 1) := by decide +kernel
theorem dX12_turn_33 : decode cX12_turn 33 = .ok (.istore_n 2, 1) := by decide +kernel
theorem dX12_turn_34 : decode cX12_turn 34 = .ok (.iload_n 2, 1) := by decide +kernel
theorem dX12_turn_35 : decode cX12_turn 35 = .ok (.aload_n 0, 1) := by decide +kernel
theorem dX12_turn_36 : decode cX12_turn 36 = .ok (.getfield 70, 3) := by decide +kernel
theorem dX12_turn_39 : decode cX12_turn 39 = .ok (.iconst 2, 1) := by decide +kernel
theorem dX12_turn_40 : decode cX12_turn 40 = .ok (.iaload, 1) := by decide +kernel
theorem dX12_turn_41 : decode cX12_turn 41 = .ok (.if_icmp .ge 33, 3) := by decide +kernel
theorem dX12_turn_44 : decode cX12_turn 44 = .ok (.iload_n 1, 1) := by decide +kernel
theorem dX12_turn_45 : decode cX12_turn 45 = .ok (.aload_n 0, 1) := by decide +kernel
theorem dX12_turn_46 : decode cX12_turn 46 = .ok (.getfield 67, 3) := by decide +kernel
theorem dX12_turn_49 : decode cX12_turn 49 = .ok (.iload_n 2, 1) := by decide +kernel
theorem dX12_turn_50 : decode cX12_turn 50 = .ok (.iaload, 1) := by decide +kernel
theorem dX12_turn_51 : decode cX12_turn 51 = .ok (.aload_n 0, 1) := by decide +kernel
theorem dX12_turn_52 : decode cX12_turn 52 = .ok (.getfield 70, 3) := by decide +kernel
theorem dX12_turn_55 : decode cX12_turn 55 = .ok (.bipush 6, 2) := by decide +kernel
theorem dX12_turn_57 : decode cX12_turn 57 = .ok (.iaload, 1) := by decide +kernel
theorem dX12_turn_58 : decode cX12_turn 58 = .ok (.if_icmp .ne 7, 3) := by decide +kernel
theorem dX12_turn_61 : decode cX12_turn 61 = .ok (.iconst 1, 1) := by decide +kernel
theorem dX12_turn_62 : decode cX12_turn 62 = .ok (.goto 4, 3) := by decide +kernel
theorem dX12_turn_65 : decode cX12_turn 65 = .ok (.iconst 0, 1) := by decide +kernel
theorem dX12_turn_66 : decode cX12_turn 66 = .ok (.iadd, 1) := by decide +kernel
theorem dX12_turn_67 : decode cX12_turn 67 = .ok (.istore_n 1, 1) := by decide +kernel
theorem dX12_turn_68 : decode cX12_turn 68 = .ok (.iinc 2 1, 3) := by decide +kernel
theorem dX12_turn_71 : decode cX12_turn 71 = .ok (.goto (-37), 3) := by decide +kernel
theorem dX12_turn_74 : decode cX12_turn 74 = .ok (.aload_n 0, 1) := by decide +kernel
theorem dX12_turn_75 : decode cX12_turn 75 = .ok (.iconst 0, 1) := by decide +kernel
theorem dX12_turn_76 : decode cX12_turn 76 = .ok (.putfield 153, 3) := by decide +kernel
theorem dX12_turn_79 : decode cX12_turn 79 = .ok (.aload_n 0, 1) := by decide +kernel
theorem dX12_turn_80 : decode cX12_turn 80 = .ok (.iload_n 1, 1) := by decide +kernel
theorem dX12_turn_81 : decode cX12_turn 81 = .ok (.invokevirtual 157, 3) := by decide +kernel
theorem dX12_turn_84 : decode cX12_turn 84 = .ok (.ireturn, 1) := by decide +kernel
theorem dX12_spend_0 : decode cX12_spend 0 = .ok (.aload_n 0, 1) := by decide +kernel
theorem dX12_spend_1 : decode cX12_spend 1 = .ok (.iload_n 1, 1) := by decide +kernel
theorem dX12_spend_2 : decode cX12_spend 2 = .ok (.invokevirtual 170, 3) := by decide +kernel
theorem dX12_spend_5 : decode cX12_spend 5 = .ok (.ifCond .eq 25, 3) := by decide +kernel
theorem dX12_spend_8 : decode cX12_spend 8 = .ok (.aload_n 0, 1) := by decide +kernel
theorem dX12_spend_9 : decode cX12_spend 9 = .ok (.getfield 7, 3) := by decide +kernel
theorem dX12_spend_12 : decode cX12_spend 12 = .ok (.iload_n 1, 1) := by decide +kernel
theorem dX12_spend_13 : decode cX12_spend 13 = .ok (.iaload, 1) := by decide +kernel
theorem dX12_spend_14 : decode cX12_spend 14 = .ok (.iconst 2, 1) := by decide +kernel
theorem dX12_spend_15 : decode cX12_spend 15 = .ok (.if_icmp .ne 15, 3) := by decide +kernel
theorem dX12_spend_18 : decode cX12_spend 18 = .ok (.iload_n 2, 1) := by decide +kernel
theorem dX12_spend_19 : decode cX12_spend 19 = .ok (.i2l, 1) := by decide +kernel
theorem dX12_spend_20 : decode cX12_spend 20 = .ok (.lconst 1, 1) := by decide +kernel
theorem dX12_spend_21 : decode cX12_spend 21 = .ok (.ldc2_w 175, 3) := by decide +kernel
theorem dX12_spend_24 : decode cX12_spend 24 = .ok (.invokestatic 135, 3) := by decide +kernel
theorem dX12_spend_27 : decode cX12_spend 27 = .ok (.ifCond .ne 9, 3) := by decide +kernel
theorem dX12_spend_30 : decode cX12_spend 30 = .ok (.aload_n 0, 1) := by decide +kernel
theorem dX12_spend_31 : decode cX12_spend 31 = .ok (.iconst 1, 1) := by decide +kernel
theorem dX12_spend_32 : decode cX12_spend 32 = .ok (.invokevirtual 149, 3) := by decide +kernel
theorem dX12_spend_35 : decode cX12_spend 35 = .ok (.ireturn, 1) := by decide +kernel
theorem dX12_spend_36 : decode cX12_spend 36 = .ok (.aload_n 0, 1) := by decide +kernel
theorem dX12_spend_37 : decode cX12_spend 37 = .ok (.invokevirtual 208, 3) := by decide +kernel
theorem dX12_spend_40 : decode cX12_spend 40 = .ok (.aload_n 0, 1) := by decide +kernel
theorem dX12_spend_41 : decode cX12_spend 41 = .ok (.getfield 85, 3) := by decide +kernel
theorem dX12_spend_44 : decode cX12_spend 44 = .ok (.bipush 10, 2) := by decide +kernel
theorem dX12_spend_46 : decode cX12_spend 46 = .ok (.aload_n 0, 1) := by decide +kernel
theorem dX12_spend_47 : decode cX12_spend 47 = .ok (.getfield 70, 3) := by decide +kernel
theorem dX12_spend_50 : decode cX12_spend 50 = .ok (.iconst 3, 1) := by decide +kernel
theorem dX12_spend_51 : decode cX12_spend 51 = .ok (.iaload, 1) := by decide +kernel
theorem dX12_spend_52 : decode cX12_spend 52 = .ok (.imul, 1) := by decide +kernel
theorem dX12_spend_53 : decode cX12_spend 53 = .ok (.iload_n 1, 1) := by decide +kernel
theorem dX12_spend_54 : decode cX12_spend 54 = .ok (.iadd, 1) := by decide +kernel
theorem dX12_spend_55 : decode cX12_spend 55 = .ok (.laload, 1) := by decide +kernel
theorem dX12_spend_56 : decode cX12_spend 56 = .ok (.iload_n 2, 1) := by decide +kernel
theorem dX12_spend_57 : decode cX12_spend 57 = .ok (.i2l, 1) := by decide +kernel
theorem dX12_spend_58 : decode cX12_spend 58 = .ok (.lsub, 1) := by decide +kernel
theorem dX12_spend_59 : decode cX12_spend 59 = .ok (.lstore_n 3, 1) := by decide +kernel
theorem dX12_spend_60 : decode cX12_spend 60 = .ok (.lload_n 3, 1) := by decide +kernel
theorem dX12_spend_61 : decode cX12_spend 61 = .ok (.lconst 0, 1) := by decide +kernel
theorem dX12_spend_62 : decode cX12_spend 62 = .ok (.lcmp, 1) := by decide +kernel
theorem dX12_spend_63 : decode cX12_spend 63 = .ok (.ifCond .ge 9, 3) := by decide +kernel
theorem dX12_spend_66 : decode cX12_spend 66 = .ok (.aload_n 0, 1) := by decide +kernel
theorem dX12_spend_67 : decode cX12_spend 67 = .ok (.iconst 3, 1) := by decide +kernel
theorem dX12_spend_68 : decode cX12_spend 68 = .ok (.invokevirtual 149, 3) := by decide +kernel
theorem dX12_spend_71 : decode cX12_spend 71 = .ok (.ireturn, 1) := by decide +kernel
theorem dX12_spend_72 : decode cX12_spend 72 = .ok (.aload_n 0, 1) := by decide +kernel
theorem dX12_spend_73 : decode cX12_spend 73 = .ok (.getfield 22, 3) := by decide +kernel
theorem dX12_spend_76 : decode cX12_spend 76 = .ok (.iload_n 1, 1) := by decide +kernel
theorem dX12_spend_77 : decode cX12_spend 77 = .ok (.dup2, 1) := by decide +kernel
theorem dX12_spend_78 : decode cX12_spend 78 = .ok (.iaload, 1) := by decide +kernel
theorem dX12_spend_79 : decode cX12_spend 79 = .ok (.iload_n 2, 1) := by decide +kernel
theorem dX12_spend_80 : decode cX12_spend 80 = .ok (.iadd, 1) := by decide +kernel
theorem dX12_spend_81 : decode cX12_spend 81 = .ok (.iastore, 1) := by decide +kernel
theorem dX12_spend_82 : decode cX12_spend 82 = .ok (.aload_n 0, 1) := by decide +kernel
theorem dX12_spend_83 : decode cX12_spend 83 = .ok (.iconst 0, 1) := by decide +kernel
theorem dX12_spend_84 : decode cX12_spend 84 = .ok (.putfield 153, 3) := by decide +kernel
theorem dX12_spend_87 : decode cX12_spend 87 = .ok (.aload_n 0, 1) := by decide +kernel
theorem dX12_spend_88 : decode cX12_spend 88 = .ok (.lload_n 3, 1) := by decide +kernel
theorem dX12_spend_89 : decode cX12_spend 89 = .ok (.l2i, 1) := by decide +kernel
theorem dX12_spend_90 : decode cX12_spend 90 = .ok (.invokevirtual 157, 3) := by decide +kernel
theorem dX12_spend_93 : decode cX12_spend 93 = .ok (.ireturn, 1) := by decide +kernel
theorem dX12_rest_0 : decode cX12_rest 0 = .ok (.iconst 0, 1) := by decide +kernel
theorem dX12_rest_1 : decode cX12_rest 1 = .ok (.istore_n 1, 1) := by decide +kernel
theorem dX12_rest_2 : decode cX12_rest 2 = .ok (.iconst 0, 1) := by decide +kernel
theorem dX12_rest_3 : decode cX12_rest 3 = .ok (.istore_n 2, 1) := by decide +kernel
theorem dX12_rest_4 : decode cX12_rest 4 = .ok (.iload_n 2, 1) := by decide +kernel
theorem dX12_rest_5 : decode cX12_rest 5 = .ok (.aload_n 0, 1) := by decide +kernel
theorem dX12_rest_6 : decode cX12_rest 6 = .ok (.getfield 70, 3) := by decide +kernel
theorem dX12_rest_9 : decode cX12_rest 9 = .ok (.iconst 0, 1) := by decide +kernel
theorem dX12_rest_10 : decode cX12_rest 10 = .ok (.iaload, 1) := by decide +kernel
theorem dX12_rest_11 : decode cX12_rest 11 = .ok (.if_icmp .ge 33, 3) := by decide +kernel
theorem dX12_rest_14 : decode cX12_rest 14 = .ok (.iload_n 1, 1) := by decide +kernel
theorem dX12_rest_15 : decode cX12_rest 15 = .ok (.aload_n 0, 1) := by decide +kernel
theorem dX12_rest_16 : decode cX12_rest 16 = .ok (.getfield 22, 3) := by decide +kernel
theorem dX12_rest_19 : decode cX12_rest 19 = .ok (.iload_n 2, 1) := by decide +kernel
theorem dX12_rest_20 : decode cX12_rest 20 = .ok (.iaload, 1) := by decide +kernel
theorem dX12_rest_21 : decode cX12_rest 21 = .ok (.ifCond .eq 7, 3) := by decide +kernel
theorem dX12_rest_24 : decode cX12_rest 24 = .ok (.iconst 1, 1) := by decide +kernel
theorem dX12_rest_25 : decode cX12_rest 25 = .ok (.goto 4, 3) := by decide +kernel
theorem dX12_rest_28 : decode cX12_rest 28 = .ok (.iconst 0, 1) := by decide +kernel
theorem dX12_rest_29 : decode cX12_rest 29 = .ok (.iadd, 1) := by decide +kernel
theorem dX12_rest_30 : decode cX12_rest 30 = .ok (.istore_n 1, 1) := by decide +kernel
theorem dX12_rest_31 : decode cX12_rest 31 = .ok (.aload_n 0, 1) := by decide +kernel
theorem dX12_rest_32 : decode cX12_rest 32 = .ok (.getfield 22, 3) := by decide +kernel
theorem dX12_rest_35 : decode cX12_rest 35 = .ok (.iload_n 2, 1) := by decide +kernel
theorem dX12_rest_36 : decode cX12_rest 36 = .ok (.iconst 0, 1) := by decide +kernel
theorem dX12_rest_37 : decode cX12_rest 37 = .ok (.iastore, 1) := by decide +kernel
theorem dX12_rest_38 : decode cX12_rest 38 = .ok (.iinc 2 1, 3) := by decide +kernel
theorem dX12_rest_41 : decode cX12_rest 41 = .ok (.goto (-37), 3) := by decide +kernel
theorem dX12_rest_44 : decode cX12_rest 44 = .ok (.aload_n 0, 1) := by decide +kernel
theorem dX12_rest_45 : decode cX12_rest 45 = .ok (.iconst 0, 1) := by decide +kernel
theorem dX12_rest_46 : decode cX12_rest 46 = .ok (.putfield 153, 3) := by decide +kernel
theorem dX12_rest_49 : decode cX12_rest 49 = .ok (.aload_n 0, 1) := by decide +kernel
theorem dX12_rest_50 : decode cX12_rest 50 = .ok (.iload_n 1, 1) := by decide +kernel
theorem dX12_rest_51 : decode cX12_rest 51 = .ok (.invokevirtual 157, 3) := by decide +kernel
theorem dX12_rest_54 : decode cX12_rest 54 = .ok (.ireturn, 1) := by decide +kernel
theorem dX12_moves_0 : decode cX12_moves 0 = .ok (.iconst 0, 1) := by decide +kernel
theorem dX12_moves_1 : decode cX12_moves 1 = .ok (.istore 4, 2) := by decide +kernel
theorem dX12_moves_3 : decode cX12_moves 3 = .ok (.iload 4, 2) := by decide +kernel
theorem dX12_moves_5 : decode cX12_moves 5 = .ok (.iload_n 2, 1) := by decide +kernel
theorem dX12_moves_6 : decode cX12_moves 6 = .ok (.if_icmp .ge 52, 3) := by decide +kernel
theorem dX12_moves_9 : decode cX12_moves 9 = .ok (.iload_n 3, 1) := by decide +kernel
theorem dX12_moves_10 : decode cX12_moves 10 = .ok (.ifCond .eq 19, 3) := by decide +kernel
theorem dX12_moves_13 : decode cX12_moves 13 = .ok (.aload_n 0, 1) := by decide +kernel
theorem dX12_moves_14 : decode cX12_moves 14 = .ok (.getfield 73, 3) := by decide +kernel
theorem dX12_moves_17 : decode cX12_moves 17 = .ok (.aload_n 0, 1) := by decide +kernel
theorem dX12_moves_18 : decode cX12_moves 18 = .ok (.getfield 211, 3) := by decide +kernel
theorem dX12_moves_21 : decode cX12_moves 21 = .ok (.aload_n 1, 1) := by decide +kernel
theorem dX12_moves_22 : decode cX12_moves 22 = .ok (.iload 4, 2) := by decide +kernel
theorem dX12_moves_24 : decode cX12_moves 24 = .ok (.iaload, 1) := by decide +kernel
theorem dX12_moves_25 : decode cX12_moves 25 = .ok (.iastore, 1) := by decide +kernel
theorem dX12_moves_26 : decode cX12_moves 26 = .ok (.goto 16, 3) := by decide +kernel
theorem dX12_moves_29 : decode cX12_moves 29 = .ok (.aload_n 1, 1) := by decide +kernel
theorem dX12_moves_30 : decode cX12_moves 30 = .ok (.iload 4, 2) := by decide +kernel
theorem dX12_moves_32 : decode cX12_moves 32 = .ok (.aload_n 0, 1) := by decide +kernel
theorem dX12_moves_33 : decode cX12_moves 33 = .ok (.getfield 73, 3) := by decide +kernel
theorem dX12_moves_36 : decode cX12_moves 36 = .ok (.aload_n 0, 1) := by decide +kernel
theorem dX12_moves_37 : decode cX12_moves 37 = .ok (.getfield 211, 3) := by decide +kernel
theorem dX12_moves_40 : decode cX12_moves 40 = .ok (.iaload, 1) := by decide +kernel
theorem dX12_moves_41 : decode cX12_moves 41 = .ok (.iastore, 1) := by decide +kernel
theorem dX12_moves_42 : decode cX12_moves 42 = .ok (.aload_n 0, 1) := by decide +kernel
theorem dX12_moves_43 : decode cX12_moves 43 = .ok (.dup, 1) := by decide +kernel
theorem dX12_moves_44 : decode cX12_moves 44 = .ok (.getfield 211, 3) := by decide +kernel
theorem dX12_moves_47 : decode cX12_moves 47 = .ok (.iconst 1, 1) := by decide +kernel
theorem dX12_moves_48 : decode cX12_moves 48 = .ok (.iadd, 1) := by decide +kernel
theorem dX12_moves_49 : decode cX12_moves 49 = .ok (.putfield 211, 3) := by decide +kernel
theorem dX12_moves_52 : decode cX12_moves 52 = .ok (.iinc 4 1, 3) := by decide +kernel
theorem dX12_moves_55 : decode cX12_moves 55 = .ok (.goto (-52), 3) := by decide +kernel
theorem dX12_moves_58 : decode cX12_moves 58 = .ok (.return_, 1) := by decide +kernel
theorem dX12_movesAll_0 : decode cX12_movesAll 0 = .ok (.aload_n 0, 1) := by decide +kernel
theorem dX12_movesAll_1 : decode cX12_movesAll 1 = .ok (.iconst 0, 1) := by decide +kernel
theorem dX12_movesAll_2 : decode cX12_movesAll 2 = .ok (.putfield 211, 3) := by decide +kernel
theorem dX12_movesAll_5 : decode cX12_movesAll 5 = .ok (.aload_n 0, 1) := by decide +kernel
theorem dX12_movesAll_6 : decode cX12_movesAll 6 = .ok (.aload_n 0, 1) := by decide +kernel
theorem dX12_movesAll_7 : decode cX12_movesAll 7 = .ok (.getfield 7, 3) := by decide +kernel
theorem dX12_movesAll_10 : decode cX12_movesAll 10 = .ok (.bipush 10, 2) := by decide +kernel
theorem dX12_movesAll_12 : decode cX12_movesAll 12 = .ok (.iload_n 1, 1) := by decide +kernel
theorem dX12_movesAll_13 : decode cX12_movesAll 13 = .ok (.invokevirtual 214, 3) := by decide +kernel
theorem dX12_movesAll_16 : decode cX12_movesAll 16 = .ok (.aload_n 0, 1) := by decide +kernel
theorem dX12_movesAll_17 : decode cX12_movesAll 17 = .ok (.aload_n 0, 1) := by decide +kernel
theorem dX12_movesAll_18 : decode cX12_movesAll 18 = .ok (.getfield 13, 3) := by decide +kernel
theorem dX12_movesAll_21 : decode cX12_movesAll 21 = .ok (.bipush 10, 2) := by decide +kernel
theorem dX12_movesAll_23 : decode cX12_movesAll 23 = .ok (.iload_n 1, 1) := by decide +kernel
theorem dX12_movesAll_24 : decode cX12_movesAll 24 = .ok (.invokevirtual 214, 3) := by decide +kernel
theorem dX12_movesAll_27 : decode cX12_movesAll 27 = .ok (.aload_n 0, 1) := by decide +kernel
theorem dX12_movesAll_28 : decode cX12_movesAll 28 = .ok (.aload_n 0, 1) := by decide +kernel
theorem dX12_movesAll_29 : decode cX12_movesAll 29 = .ok (.getfield 16, 3) := by decide +kernel
theorem dX12_movesAll_32 : decode cX12_movesAll 32 = .ok (.bipush 10, 2) := by decide +kernel
theorem dX12_movesAll_34 : decode cX12_movesAll 34 = .ok (.iload_n 1, 1) := by decide +kernel
theorem dX12_movesAll_35 : decode cX12_movesAll 35 = .ok (.invokevirtual 214, 3) := by decide +kernel
theorem dX12_movesAll_38 : decode cX12_movesAll 38 = .ok (.aload_n 0, 1) := by decide +kernel
theorem dX12_movesAll_39 : decode cX12_movesAll 39 = .ok (.aload_n 0, 1) := by decide +kernel
theorem dX12_movesAll_40 : decode cX12_movesAll 40 = .ok (.getfield 19, 3) := by decide +kernel
theorem dX12_movesAll_43 : decode cX12_movesAll 43 = .ok (.bipush 10, 2) := by decide +kernel
theorem dX12_movesAll_45 : decode cX12_movesAll 45 = .ok (.iload_n 1, 1) := by decide +kernel
theorem dX12_movesAll_46 : decode cX12_movesAll 46 = .ok (.invokevirtual 214, 3) := by decide +kernel
theorem dX12_movesAll_49 : decode cX12_movesAll 49 = .ok (.aload_n 0, 1) := by decide +kernel
theorem dX12_movesAll_50 : decode cX12_movesAll 50 = .ok (.aload_n 0, 1) := by decide +kernel
theorem dX12_movesAll_51 : decode cX12_movesAll 51 = .ok (.getfield 22, 3) := by decide +kernel
theorem dX12_movesAll_54 : decode cX12_movesAll 54 = .ok (.bipush 10, 2) := by decide +kernel
theorem dX12_movesAll_56 : decode cX12_movesAll 56 = .ok (.iload_n 1, 1) := by decide +kernel
theorem dX12_movesAll_57 : decode cX12_movesAll 57 = .ok (.invokevirtual 214, 3) := by decide +kernel
theorem dX12_movesAll_60 : decode cX12_movesAll 60 = .ok (.aload_n 0, 1) := by decide +kernel
theorem dX12_movesAll_61 : decode cX12_movesAll 61 = .ok (.aload_n 0, 1) := by decide +kernel
theorem dX12_movesAll_62 : decode cX12_movesAll 62 = .ok (.getfield 25, 3) := by decide +kernel
theorem dX12_movesAll_65 : decode cX12_movesAll 65 = .ok (.bipush 30, 2) := by decide +kernel
theorem dX12_movesAll_67 : decode cX12_movesAll 67 = .ok (.iload_n 1, 1) := by decide +kernel
theorem dX12_movesAll_68 : decode cX12_movesAll 68 = .ok (.invokevirtual 214, 3) := by decide +kernel
theorem dX12_movesAll_71 : decode cX12_movesAll 71 = .ok (.aload_n 0, 1) := by decide +kernel
theorem dX12_movesAll_72 : decode cX12_movesAll 72 = .ok (.aload_n 0, 1) := by decide +kernel
theorem dX12_movesAll_73 : decode cX12_movesAll 73 = .ok (.getfield 28, 3) := by decide +kernel
theorem dX12_movesAll_76 : decode cX12_movesAll 76 = .ok (.bipush 30, 2) := by decide +kernel
theorem dX12_movesAll_78 : decode cX12_movesAll 78 = .ok (.iload_n 1, 1) := by decide +kernel
theorem dX12_movesAll_79 : decode cX12_movesAll 79 = .ok (.invokevirtual 214, 3) := by decide +kernel
theorem dX12_movesAll_82 : decode cX12_movesAll 82 = .ok (.aload_n 0, 1) := by decide +kernel
theorem dX12_movesAll_83 : decode cX12_movesAll 83 = .ok (.aload_n 0, 1) := by decide +kernel
theorem dX12_movesAll_84 : decode cX12_movesAll 84 = .ok (.getfield 31, 3) := by decide +kernel
theorem dX12_movesAll_87 : decode cX12_movesAll 87 = .ok (.bipush 30, 2) := by decide +kernel
theorem dX12_movesAll_89 : decode cX12_movesAll 89 = .ok (.iload_n 1, 1) := by decide +kernel
theorem dX12_movesAll_90 : decode cX12_movesAll 90 = .ok (.invokevirtual 214, 3) := by decide +kernel
theorem dX12_movesAll_93 : decode cX12_movesAll 93 = .ok (.aload_n 0, 1) := by decide +kernel
theorem dX12_movesAll_94 : decode cX12_movesAll 94 = .ok (.aload_n 0, 1) := by decide +kernel
theorem dX12_movesAll_95 : decode cX12_movesAll 95 = .ok (.getfield 34, 3) := by decide +kernel
theorem dX12_movesAll_98 : decode cX12_movesAll 98 = .ok (.bipush 30, 2) := by decide +kernel
theorem dX12_movesAll_100 : decode cX12_movesAll 100 = .ok (.iload_n 1, 1) := by decide +kernel
theorem dX12_movesAll_101 : decode cX12_movesAll 101 = .ok (.invokevirtual 214, 3) := by decide +kernel
theorem dX12_movesAll_104 : decode cX12_movesAll 104 = .ok (.aload_n 0, 1) := by decide +kernel
theorem dX12_movesAll_105 : decode cX12_movesAll 105 = .ok (.aload_n 0, 1) := by decide +kernel
theorem dX12_movesAll_106 : decode cX12_movesAll 106 = .ok (.getfield 37, 3) := by decide +kernel
theorem dX12_movesAll_109 : decode cX12_movesAll 109 = .ok (.bipush 30, 2) := by decide +kernel
theorem dX12_movesAll_111 : decode cX12_movesAll 111 = .ok (.iload_n 1, 1) := by decide +kernel
theorem dX12_movesAll_112 : decode cX12_movesAll 112 = .ok (.invokevirtual 214, 3) := by decide +kernel
theorem dX12_movesAll_115 : decode cX12_movesAll 115 = .ok (.aload_n 0, 1) := by decide +kernel
theorem dX12_movesAll_116 : decode cX12_movesAll 116 = .ok (.aload_n 0, 1) := by decide +kernel
theorem dX12_movesAll_117 : decode cX12_movesAll 117 = .ok (.getfield 40, 3) := by decide +kernel
theorem dX12_movesAll_120 : decode cX12_movesAll 120 = .ok (.bipush 30, 2) := by decide +kernel
theorem dX12_movesAll_122 : decode cX12_movesAll 122 = .ok (.iload_n 1, 1) := by decide +kernel
theorem dX12_movesAll_123 : decode cX12_movesAll 123 = .ok (.invokevirtual 214, 3) := by decide +kernel
theorem dX12_movesAll_126 : decode cX12_movesAll 126 = .ok (.aload_n 0, 1) := by decide +kernel
theorem dX12_movesAll_127 : decode cX12_movesAll 127 = .ok (.aload_n 0, 1) := by decide +kernel
theorem dX12_movesAll_128 : decode cX12_movesAll 128 = .ok (.getfield 43, 3) := by decide +kernel
theorem dX12_movesAll_131 : decode cX12_movesAll 131 = .ok (.bipush 30, 2) := by decide +kernel
theorem dX12_movesAll_133 : decode cX12_movesAll 133 = .ok (.iload_n 1, 1) := by decide +kernel
theorem dX12_movesAll_134 : decode cX12_movesAll 134 = .ok (.invokevirtual 214, 3) := by decide +kernel
theorem dX12_movesAll_137 : decode cX12_movesAll 137 = .ok (.aload_n 0, 1) := by decide +kernel
theorem dX12_movesAll_138 : decode cX12_movesAll 138 = .ok (.aload_n 0, 1) := by decide +kernel
theorem dX12_movesAll_139 : decode cX12_movesAll 139 = .ok (.getfield 46, 3) := by decide +kernel
theorem dX12_movesAll_142 : decode cX12_movesAll 142 = .ok (.bipush 30, 2) := by decide +kernel
theorem dX12_movesAll_144 : decode cX12_movesAll 144 = .ok (.iload_n 1, 1) := by decide +kernel
theorem dX12_movesAll_145 : decode cX12_movesAll 145 = .ok (.invokevirtual 214, 3) := by decide +kernel
theorem dX12_movesAll_148 : decode cX12_movesAll 148 = .ok (.aload_n 0, 1) := by decide +kernel
theorem dX12_movesAll_149 : decode cX12_movesAll 149 = .ok (.aload_n 0, 1) := by decide +kernel
theorem dX12_movesAll_150 : decode cX12_movesAll 150 = .ok (.getfield 49, 3) := by decide +kernel
theorem dX12_movesAll_153 : decode cX12_movesAll 153 = .ok (.bipush 30, 2) := by decide +kernel
theorem dX12_movesAll_155 : decode cX12_movesAll 155 = .ok (.iload_n 1, 1) := by decide +kernel
theorem dX12_movesAll_156 : decode cX12_movesAll 156 = .ok (.invokevirtual 214, 3) := by decide +kernel
theorem dX12_movesAll_159 : decode cX12_movesAll 159 = .ok (.aload_n 0, 1) := by decide +kernel
theorem dX12_movesAll_160 : decode cX12_movesAll 160 = .ok (.aload_n 0, 1) := by decide +kernel
theorem dX12_movesAll_161 : decode cX12_movesAll 161 = .ok (.getfield 52, 3) := by decide +kernel
theorem dX12_movesAll_164 : decode cX12_movesAll 164 = .ok (.bipush 30, 2) := by decide +kernel
theorem dX12_movesAll_166 : decode cX12_movesAll 166 = .ok (.iload_n 1, 1) := by decide +kernel
theorem dX12_movesAll_167 : decode cX12_movesAll 167 = .ok (.invokevirtual 214, 3) := by decide +kernel
theorem dX12_movesAll_170 : decode cX12_movesAll 170 = .ok (.aload_n 0, 1) := by decide +kernel
theorem dX12_movesAll_171 : decode cX12_movesAll 171 = .ok (.aload_n 0, 1) := by decide +kernel
theorem dX12_movesAll_172 : decode cX12_movesAll 172 = .ok (.getfield 55, 3) := by decide +kernel
theorem dX12_movesAll_175 : decode cX12_movesAll 175 = .ok (.bipush 30, 2) := by decide +kernel
theorem dX12_movesAll_177 : decode cX12_movesAll 177 = .ok (.iload_n 1, 1) := by decide +kernel
theorem dX12_movesAll_178 : decode cX12_movesAll 178 = .ok (.invokevirtual 214, 3) := by decide +kernel
theorem dX12_movesAll_181 : decode cX12_movesAll 181 = .ok (.aload_n 0, 1) := by decide +kernel
theorem dX12_movesAll_182 : decode cX12_movesAll 182 = .ok (.aload_n 0, 1) := by decide +kernel
theorem dX12_movesAll_183 : decode cX12_movesAll 183 = .ok (.getfield 58, 3) := by decide +kernel
theorem dX12_movesAll_186 : decode cX12_movesAll 186 = .ok (.bipush 30, 2) := by decide +kernel
theorem dX12_movesAll_188 : decode cX12_movesAll 188 = .ok (.iload_n 1, 1) := by decide +kernel
theorem dX12_movesAll_189 : decode cX12_movesAll 189 = .ok (.invokevirtual 214, 3) := by decide +kernel
theorem dX12_movesAll_192 : decode cX12_movesAll 192 = .ok (.aload_n 0, 1) := by decide +kernel
theorem dX12_movesAll_193 : decode cX12_movesAll 193 = .ok (.aload_n 0, 1) := by decide +kernel
theorem dX12_movesAll_194 : decode cX12_movesAll 194 = .ok (.getfield 61, 3) := by decide +kernel
theorem dX12_movesAll_197 : decode cX12_movesAll 197 = .ok (.bipush 10, 2) := by decide +kernel
theorem dX12_movesAll_199 : decode cX12_movesAll 199 = .ok (.iload_n 1, 1) := by decide +kernel
theorem dX12_movesAll_200 : decode cX12_movesAll 200 = .ok (.invokevirtual 214, 3) := by decide +kernel
theorem dX12_movesAll_203 : decode cX12_movesAll 203 = .ok (.aload_n 0, 1) := by decide +kernel
theorem dX12_movesAll_204 : decode cX12_movesAll 204 = .ok (.aload_n 0, 1) := by decide +kernel
theorem dX12_movesAll_205 : decode cX12_movesAll 205 = .ok (.getfield 64, 3) := by decide +kernel
theorem dX12_movesAll_208 : decode cX12_movesAll 208 = .ok (.bipush 10, 2) := by decide +kernel
theorem dX12_movesAll_210 : decode cX12_movesAll 210 = .ok (.iload_n 1, 1) := by decide +kernel
theorem dX12_movesAll_211 : decode cX12_movesAll 211 = .ok (.invokevirtual 214, 3) := by decide +kernel
theorem dX12_movesAll_214 : decode cX12_movesAll 214 = .ok (.aload_n 0, 1) := by decide +kernel
theorem dX12_movesAll_215 : decode cX12_movesAll 215 = .ok (.aload_n 0, 1) := by decide +kernel
theorem dX12_movesAll_216 : decode cX12_movesAll 216 = .ok (.getfield 67, 3) := by decide +kernel
theorem dX12_movesAll_219 : decode cX12_movesAll 219 = .ok (.bipush 10, 2) := by decide +kernel
theorem dX12_movesAll_221 : decode cX12_movesAll 221 = .ok (.iload_n 1, 1) := by decide +kernel
theorem dX12_movesAll_222 : decode cX12_movesAll 222 = .ok (.invokevirtual 214, 3) := by decide +kernel
theorem dX12_movesAll_225 : decode cX12_movesAll 225 = .ok (.aload_n 0, 1) := by decide +kernel
theorem dX12_movesAll_226 : decode cX12_movesAll 226 = .ok (.aload_n 0, 1) := by decide +kernel
theorem dX12_movesAll_227 : decode cX12_movesAll 227 = .ok (.getfield 70, 3) := by decide +kernel
theorem dX12_movesAll_230 : decode cX12_movesAll 230 = .ok (.bipush 7, 2) := by decide +kernel
theorem dX12_movesAll_232 : decode cX12_movesAll 232 = .ok (.iload_n 1, 1) := by decide +kernel
theorem dX12_movesAll_233 : decode cX12_movesAll 233 = .ok (.invokevirtual 214, 3) := by decide +kernel
theorem dX12_movesAll_236 : decode cX12_movesAll 236 = .ok (.return_, 1) := by decide +kernel
theorem dX12_image_0 : decode cX12_image 0 = .ok (.aload_n 0, 1) := by decide +kernel
theorem dX12_image_1 : decode cX12_image 1 = .ok (.iconst 1, 1) := by decide +kernel
theorem dX12_image_2 : decode cX12_image 2 = .ok (.invokevirtual 218, 3) := by decide +kernel
theorem dX12_image_5 : decode cX12_image 5 = .ok (.aload_n 0, 1) := by decide +kernel
theorem dX12_image_6 : decode cX12_image 6 = .ok (.iconst 1, 1) := by decide +kernel
theorem dX12_image_7 : decode cX12_image 7 = .ok (.putfield 222, 3) := by decide +kernel
theorem dX12_image_10 : decode cX12_image 10 = .ok (.aload_n 0, 1) := by decide +kernel
theorem dX12_image_11 : decode cX12_image 11 = .ok (.iconst 1, 1) := by decide +kernel
theorem dX12_image_12 : decode cX12_image 12 = .ok (.invokevirtual 157, 3) := by decide +kernel
theorem dX12_image_15 : decode cX12_image 15 = .ok (.ireturn, 1) := by decide +kernel
theorem dX12_back_0 : decode cX12_back 0 = .ok (.aload_n 0, 1) := by decide +kernel
theorem dX12_back_1 : decode cX12_back 1 = .ok (.getfield 225, 3) := by decide +kernel
theorem dX12_back_4 : decode cX12_back 4 = .ok (.bipush 20, 2) := by decide +kernel
theorem dX12_back_6 : decode cX12_back 6 = .ok (.if_icmp .ne 9, 3) := by decide +kernel
theorem dX12_back_9 : decode cX12_back 9 = .ok (.aload_n 0, 1) := by decide +kernel
theorem dX12_back_10 : decode cX12_back 10 = .ok (.iconst 2, 1) := by decide +kernel
theorem dX12_back_11 : decode cX12_back 11 = .ok (.invokevirtual 149, 3) := by decide +kernel
theorem dX12_back_14 : decode cX12_back 14 = .ok (.ireturn, 1) := by decide +kernel
theorem dX12_back_15 : decode cX12_back 15 = .ok (.aload_n 0, 1) := by decide +kernel
theorem dX12_back_16 : decode cX12_back 16 = .ok (.getfield 222, 3) := by decide +kernel
theorem dX12_back_19 : decode cX12_back 19 = .ok (.ifCond .ne 9, 3) := by decide +kernel
theorem dX12_back_22 : decode cX12_back 22 = .ok (.aload_n 0, 1) := by decide +kernel
theorem dX12_back_23 : decode cX12_back 23 = .ok (.iconst 3, 1) := by decide +kernel
theorem dX12_back_24 : decode cX12_back 24 = .ok (.invokevirtual 149, 3) := by decide +kernel
theorem dX12_back_27 : decode cX12_back 27 = .ok (.ireturn, 1) := by decide +kernel
theorem dX12_back_28 : decode cX12_back 28 = .ok (.aload_n 0, 1) := by decide +kernel
theorem dX12_back_29 : decode cX12_back 29 = .ok (.dup, 1) := by decide +kernel
theorem dX12_back_30 : decode cX12_back 30 = .ok (.getfield 225, 3) := by decide +kernel
theorem dX12_back_33 : decode cX12_back 33 = .ok (.iconst 1, 1) := by decide +kernel
theorem dX12_back_34 : decode cX12_back 34 = .ok (.iadd, 1) := by decide +kernel
theorem dX12_back_35 : decode cX12_back 35 = .ok (.putfield 225, 3) := by decide +kernel
theorem dX12_back_38 : decode cX12_back 38 = .ok (.aload_n 0, 1) := by decide +kernel
theorem dX12_back_39 : decode cX12_back 39 = .ok (.iconst 0, 1) := by decide +kernel
theorem dX12_back_40 : decode cX12_back 40 = .ok (.invokevirtual 218, 3) := by decide +kernel
theorem dX12_back_43 : decode cX12_back 43 = .ok (.aload_n 0, 1) := by decide +kernel
theorem dX12_back_44 : decode cX12_back 44 = .ok (.iconst 0, 1) := by decide +kernel
theorem dX12_back_45 : decode cX12_back 45 = .ok (.putfield 164, 3) := by decide +kernel
theorem dX12_back_48 : decode cX12_back 48 = .ok (.aload_n 0, 1) := by decide +kernel
theorem dX12_back_49 : decode cX12_back 49 = .ok (.iconst 0, 1) := by decide +kernel
theorem dX12_back_50 : decode cX12_back 50 = .ok (.putfield 153, 3) := by decide +kernel
theorem dX12_back_53 : decode cX12_back 53 = .ok (.aload_n 0, 1) := by decide +kernel
theorem dX12_back_54 : decode cX12_back 54 = .ok (.aload_n 0, 1) := by decide +kernel
theorem dX12_back_55 : decode cX12_back 55 = .ok (.getfield 70, 3) := by decide +kernel
theorem dX12_back_58 : decode cX12_back 58 = .ok (.bipush 6, 2) := by decide +kernel
theorem dX12_back_60 : decode cX12_back 60 = .ok (.iaload, 1) := by decide +kernel
theorem dX12_back_61 : decode cX12_back 61 = .ok (.invokevirtual 157, 3) := by decide +kernel
theorem dX12_back_64 : decode cX12_back 64 = .ok (.ireturn, 1) := by decide +kernel
theorem dX12_holds_0 : decode cX12_holds 0 = .ok (.aload_n 0, 1) := by decide +kernel
theorem dX12_holds_1 : decode cX12_holds 1 = .ok (.getfield 52, 3) := by decide +kernel
theorem dX12_holds_4 : decode cX12_holds 4 = .ok (.iload_n 1, 1) := by decide +kernel
theorem dX12_holds_5 : decode cX12_holds 5 = .ok (.iaload, 1) := by decide +kernel
theorem dX12_holds_6 : decode cX12_holds 6 = .ok (.tableswitch 113 0 3 #[30, 32, 55, 77], 30) := by decide +kernel
theorem dX12_holds_36 : decode cX12_holds 36 = .ok (.iconst 1, 1) := by decide +kernel
theorem dX12_holds_37 : decode cX12_holds 37 = .ok (.ireturn, 1) := by decide +kernel
theorem dX12_holds_38 : decode cX12_holds 38 = .ok (.aload_n 0, 1) := by decide +kernel
theorem dX12_holds_39 : decode cX12_holds 39 = .ok (.getfield 228, 3) := by decide +kernel
theorem dX12_holds_42 : decode cX12_holds 42 = .ok (.aload_n 0, 1) := by decide +kernel
theorem dX12_holds_43 : decode cX12_holds 43 = .ok (.getfield 55, 3) := by decide +kernel
theorem dX12_holds_46 : decode cX12_holds 46 = .ok (.iload_n 1, 1) := by decide +kernel
theorem dX12_holds_47 : decode cX12_holds 47 = .ok (.iaload, 1) := by decide +kernel
theorem dX12_holds_48 : decode cX12_holds 48 = .ok (.ishr, 1) := by decide +kernel
theorem dX12_holds_49 : decode cX12_holds 49 = .ok (.iconst 1, 1) := by decide +kernel
theorem dX12_holds_50 : decode cX12_holds 50 = .ok (.iand, 1) := by decide +kernel
theorem dX12_holds_51 : decode cX12_holds 51 = .ok (.iconst 1, 1) := by decide +kernel
theorem dX12_holds_52 : decode cX12_holds 52 = .ok (.if_icmp .ne 7, 3) := by decide +kernel
theorem dX12_holds_55 : decode cX12_holds 55 = .ok (.iconst 1, 1) := by decide +kernel
theorem dX12_holds_56 : decode cX12_holds 56 = .ok (.goto 4, 3) := by decide +kernel
theorem dX12_holds_59 : decode cX12_holds 59 = .ok (.iconst 0, 1) := by decide +kernel
theorem dX12_holds_60 : decode cX12_holds 60 = .ok (.ireturn, 1) := by decide +kernel
theorem dX12_holds_61 : decode cX12_holds 61 = .ok (.aload_n 0, 1) := by decide +kernel
theorem dX12_holds_62 : decode cX12_holds 62 = .ok (.getfield 228, 3) := by decide +kernel
theorem dX12_holds_65 : decode cX12_holds 65 = .ok (.aload_n 0, 1) := by decide +kernel
theorem dX12_holds_66 : decode cX12_holds 66 = .ok (.getfield 55, 3) := by decide +kernel
theorem dX12_holds_69 : decode cX12_holds 69 = .ok (.iload_n 1, 1) := by decide +kernel
theorem dX12_holds_70 : decode cX12_holds 70 = .ok (.iaload, 1) := by decide +kernel
theorem dX12_holds_71 : decode cX12_holds 71 = .ok (.ishr, 1) := by decide +kernel
theorem dX12_holds_72 : decode cX12_holds 72 = .ok (.iconst 1, 1) := by decide +kernel
theorem dX12_holds_73 : decode cX12_holds 73 = .ok (.iand, 1) := by decide +kernel
theorem dX12_holds_74 : decode cX12_holds 74 = .ok (.ifCond .ne 7, 3) := by decide +kernel
theorem dX12_holds_77 : decode cX12_holds 77 = .ok (.iconst 1, 1) := by decide +kernel
theorem dX12_holds_78 : decode cX12_holds 78 = .ok (.goto 4, 3) := by decide +kernel
theorem dX12_holds_81 : decode cX12_holds 81 = .ok (.iconst 0, 1) := by decide +kernel
theorem dX12_holds_82 : decode cX12_holds 82 = .ok (.ireturn, 1) := by decide +kernel
theorem dX12_holds_83 : decode cX12_holds 83 = .ok (.aload_n 0, 1) := by decide +kernel
theorem dX12_holds_84 : decode cX12_holds 84 = .ok (.getfield 85, 3) := by decide +kernel
theorem dX12_holds_87 : decode cX12_holds 87 = .ok (.bipush 10, 2) := by decide +kernel
theorem dX12_holds_89 : decode cX12_holds 89 = .ok (.aload_n 0, 1) := by decide +kernel
theorem dX12_holds_90 : decode cX12_holds 90 = .ok (.getfield 228, 3) := by decide +kernel
theorem dX12_holds_93 : decode cX12_holds 93 = .ok (.imul, 1) := by decide +kernel
theorem dX12_holds_94 : decode cX12_holds 94 = .ok (.aload_n 0, 1) := by decide +kernel
theorem dX12_holds_95 : decode cX12_holds 95 = .ok (.getfield 55, 3) := by decide +kernel
theorem dX12_holds_98 : decode cX12_holds 98 = .ok (.iload_n 1, 1) := by decide +kernel
theorem dX12_holds_99 : decode cX12_holds 99 = .ok (.iaload, 1) := by decide +kernel
theorem dX12_holds_100 : decode cX12_holds 100 = .ok (.iadd, 1) := by decide +kernel
theorem dX12_holds_101 : decode cX12_holds 101 = .ok (.laload, 1) := by decide +kernel
theorem dX12_holds_102 : decode cX12_holds 102 = .ok (.aload_n 0, 1) := by decide +kernel
theorem dX12_holds_103 : decode cX12_holds 103 = .ok (.getfield 58, 3) := by decide +kernel
theorem dX12_holds_106 : decode cX12_holds 106 = .ok (.iload_n 1, 1) := by decide +kernel
theorem dX12_holds_107 : decode cX12_holds 107 = .ok (.iaload, 1) := by decide +kernel
theorem dX12_holds_108 : decode cX12_holds 108 = .ok (.i2l, 1) := by decide +kernel
theorem dX12_holds_109 : decode cX12_holds 109 = .ok (.lcmp, 1) := by decide +kernel
theorem dX12_holds_110 : decode cX12_holds 110 = .ok (.ifCond .lt 7, 3) := by decide +kernel
theorem dX12_holds_113 : decode cX12_holds 113 = .ok (.iconst 1, 1) := by decide +kernel
theorem dX12_holds_114 : decode cX12_holds 114 = .ok (.goto 4, 3) := by decide +kernel
theorem dX12_holds_117 : decode cX12_holds 117 = .ok (.iconst 0, 1) := by decide +kernel
theorem dX12_holds_118 : decode cX12_holds 118 = .ok (.ireturn, 1) := by decide +kernel
theorem dX12_holds_119 : decode cX12_holds 119 = .ok (.aload_n 0, 1) := by decide +kernel
theorem dX12_holds_120 : decode cX12_holds 120 = .ok (.getfield 85, 3) := by decide +kernel
theorem dX12_holds_123 : decode cX12_holds 123 = .ok (.bipush 10, 2) := by decide +kernel
theorem dX12_holds_125 : decode cX12_holds 125 = .ok (.aload_n 0, 1) := by decide +kernel
theorem dX12_holds_126 : decode cX12_holds 126 = .ok (.getfield 228, 3) := by decide +kernel
theorem dX12_holds_129 : decode cX12_holds 129 = .ok (.imul, 1) := by decide +kernel
theorem dX12_holds_130 : decode cX12_holds 130 = .ok (.aload_n 0, 1) := by decide +kernel
theorem dX12_holds_131 : decode cX12_holds 131 = .ok (.getfield 55, 3) := by decide +kernel
theorem dX12_holds_134 : decode cX12_holds 134 = .ok (.iload_n 1, 1) := by decide +kernel
theorem dX12_holds_135 : decode cX12_holds 135 = .ok (.iaload, 1) := by decide +kernel
theorem dX12_holds_136 : decode cX12_holds 136 = .ok (.iadd, 1) := by decide +kernel
theorem dX12_holds_137 : decode cX12_holds 137 = .ok (.laload, 1) := by decide +kernel
theorem dX12_holds_138 : decode cX12_holds 138 = .ok (.aload_n 0, 1) := by decide +kernel
theorem dX12_holds_139 : decode cX12_holds 139 = .ok (.getfield 58, 3) := by decide +kernel
theorem dX12_holds_142 : decode cX12_holds 142 = .ok (.iload_n 1, 1) := by decide +kernel
theorem dX12_holds_143 : decode cX12_holds 143 = .ok (.iaload, 1) := by decide +kernel
theorem dX12_holds_144 : decode cX12_holds 144 = .ok (.i2l, 1) := by decide +kernel
theorem dX12_holds_145 : decode cX12_holds 145 = .ok (.lcmp, 1) := by decide +kernel
theorem dX12_holds_146 : decode cX12_holds 146 = .ok (.ifCond .ge 7, 3) := by decide +kernel
theorem dX12_holds_149 : decode cX12_holds 149 = .ok (.iconst 1, 1) := by decide +kernel
theorem dX12_holds_150 : decode cX12_holds 150 = .ok (.goto 4, 3) := by decide +kernel
theorem dX12_holds_153 : decode cX12_holds 153 = .ok (.iconst 0, 1) := by decide +kernel
theorem dX12_holds_154 : decode cX12_holds 154 = .ok (.ireturn, 1) := by decide +kernel
theorem dX12_isThere_0 : decode cX12_isThere 0 = .ok (.aload_n 0, 1) := by decide +kernel
theorem dX12_isThere_1 : decode cX12_isThere 1 = .ok (.getfield 89, 3) := by decide +kernel
theorem dX12_isThere_4 : decode cX12_isThere 4 = .ok (.aload_n 0, 1) := by decide +kernel
theorem dX12_isThere_5 : decode cX12_isThere 5 = .ok (.getfield 228, 3) := by decide +kernel
theorem dX12_isThere_8 : decode cX12_isThere 8 = .ok (.iaload, 1) := by decide +kernel
theorem dX12_isThere_9 : decode cX12_isThere 9 = .ok (.iload_n 1, 1) := by decide +kernel
theorem dX12_isThere_10 : decode cX12_isThere 10 = .ok (.ishr, 1) := by decide +kernel
theorem dX12_isThere_11 : decode cX12_isThere 11 = .ok (.iconst 1, 1) := by decide +kernel
theorem dX12_isThere_12 : decode cX12_isThere 12 = .ok (.iand, 1) := by decide +kernel
theorem dX12_isThere_13 : decode cX12_isThere 13 = .ok (.iconst 1, 1) := by decide +kernel
theorem dX12_isThere_14 : decode cX12_isThere 14 = .ok (.if_icmp .ne 7, 3) := by decide +kernel
theorem dX12_isThere_17 : decode cX12_isThere 17 = .ok (.iconst 1, 1) := by decide +kernel
theorem dX12_isThere_18 : decode cX12_isThere 18 = .ok (.goto 4, 3) := by decide +kernel
theorem dX12_isThere_21 : decode cX12_isThere 21 = .ok (.iconst 0, 1) := by decide +kernel
theorem dX12_isThere_22 : decode cX12_isThere 22 = .ok (.ireturn, 1) := by decide +kernel
theorem dX12_findThere_0 : decode cX12_findThere 0 = .ok (.aload_n 0, 1) := by decide +kernel
theorem dX12_findThere_1 : decode cX12_findThere 1 = .ok (.getfield 89, 3) := by decide +kernel
theorem dX12_findThere_4 : decode cX12_findThere 4 = .ok (.aload_n 0, 1) := by decide +kernel
theorem dX12_findThere_5 : decode cX12_findThere 5 = .ok (.getfield 228, 3) := by decide +kernel
theorem dX12_findThere_8 : decode cX12_findThere 8 = .ok (.iconst 1, 1) := by decide +kernel
theorem dX12_findThere_9 : decode cX12_findThere 9 = .ok (.aload_n 0, 1) := by decide +kernel
theorem dX12_findThere_10 : decode cX12_findThere 10 = .ok (.getfield 70, 3) := by decide +kernel
theorem dX12_findThere_13 : decode cX12_findThere 13 = .ok (.iconst 1, 1) := by decide +kernel
theorem dX12_findThere_14 : decode cX12_findThere 14 = .ok (.iaload, 1) := by decide +kernel
theorem dX12_findThere_15 : decode cX12_findThere 15 = .ok (.ishl, 1) := by decide +kernel
theorem dX12_findThere_16 : decode cX12_findThere 16 = .ok (.iconst 1, 1) := by decide +kernel
theorem dX12_findThere_17 : decode cX12_findThere 17 = .ok (.isub, 1) := by decide +kernel
theorem dX12_findThere_18 : decode cX12_findThere 18 = .ok (.iastore, 1) := by decide +kernel
theorem dX12_findThere_19 : decode cX12_findThere 19 = .ok (.aload_n 0, 1) := by decide +kernel
theorem dX12_findThere_20 : decode cX12_findThere 20 = .ok (.getfield 70, 3) := by decide +kernel
theorem dX12_findThere_23 : decode cX12_findThere 23 = .ok (.iconst 1, 1) := by decide +kernel
theorem dX12_findThere_24 : decode cX12_findThere 24 = .ok (.iaload, 1) := by decide +kernel
theorem dX12_findThere_25 : decode cX12_findThere 25 = .ok (.iconst 1, 1) := by decide +kernel
theorem dX12_findThere_26 : decode cX12_findThere 26 = .ok (.isub, 1) := by decide +kernel
theorem dX12_findThere_27 : decode cX12_findThere 27 = .ok (.istore_n 1, 1) := by decide +kernel
theorem dX12_findThere_28 : decode cX12_findThere 28 = .ok (.iload_n 1, 1) := by decide +kernel
theorem dX12_findThere_29 : decode cX12_findThere 29 = .ok (.ifCond .lt 57, 3) := by decide +kernel
theorem dX12_findThere_32 : decode cX12_findThere 32 = .ok (.aload_n 0, 1) := by decide +kernel
theorem dX12_findThere_33 : decode cX12_findThere 33 = .ok (.getfield 25, 3) := by decide +kernel
theorem dX12_findThere_36 : decode cX12_findThere 36 = .ok (.iload_n 1, 1) := by decide +kernel
theorem dX12_findThere_37 : decode cX12_findThere 37 = .ok (.iaload, 1) := by decide +kernel
theorem dX12_findThere_38 : decode cX12_findThere 38 = .ok (.iconst 4, 1) := by decide +kernel
theorem dX12_findThere_39 : decode cX12_findThere 39 = .ok (.if_icmp .ne 41, 3) := by decide +kernel
theorem dX12_findThere_42 : decode cX12_findThere 42 = .ok (.aload_n 0, 1) := by decide +kernel
theorem dX12_findThere_43 : decode cX12_findThere 43 = .ok (.iload_n 1, 1) := by decide +kernel
theorem dX12_findThere_44 : decode cX12_findThere 44 = .ok (.invokevirtual 231, 3) := by decide +kernel
theorem dX12_findThere_47 : decode cX12_findThere 47 = .ok (.ifCond .eq 33, 3) := by decide +kernel
theorem dX12_findThere_50 : decode cX12_findThere 50 = .ok (.aload_n 0, 1) := by decide +kernel
theorem dX12_findThere_51 : decode cX12_findThere 51 = .ok (.iload_n 1, 1) := by decide +kernel
theorem dX12_findThere_52 : decode cX12_findThere 52 = .ok (.invokevirtual 234, 3) := by decide +kernel
theorem dX12_findThere_55 : decode cX12_findThere 55 = .ok (.ifCond .eq 25, 3) := by decide +kernel
theorem dX12_findThere_58 : decode cX12_findThere 58 = .ok (.aload_n 0, 1) := by decide +kernel
theorem dX12_findThere_59 : decode cX12_findThere 59 = .ok (.getfield 89, 3) := by decide +kernel
theorem dX12_findThere_62 : decode cX12_findThere 62 = .ok (.aload_n 0, 1) := by decide +kernel
theorem dX12_findThere_63 : decode cX12_findThere 63 = .ok (.getfield 228, 3) := by decide +kernel
theorem dX12_findThere_66 : decode cX12_findThere 66 = .ok (.dup2, 1) := by decide +kernel
theorem dX12_findThere_67 : decode cX12_findThere 67 = .ok (.iaload, 1) := by decide +kernel
theorem dX12_findThere_68 : decode cX12_findThere 68 = .ok (.iconst 1, 1) := by decide +kernel
theorem dX12_findThere_69 : decode cX12_findThere 69 = .ok (.aload_n 0, 1) := by decide +kernel
theorem dX12_findThere_70 : decode cX12_findThere 70 = .ok (.getfield 28, 3) := by decide +kernel
theorem dX12_findThere_73 : decode cX12_findThere 73 = .ok (.iload_n 1, 1) := by decide +kernel
theorem dX12_findThere_74 : decode cX12_findThere 74 = .ok (.iaload, 1) := by decide +kernel
theorem dX12_findThere_75 : decode cX12_findThere 75 = .ok (.ishl, 1) := by decide +kernel
theorem dX12_findThere_76 : decode cX12_findThere 76 = .ok (.iconst (-1), 1) := by decide +kernel
theorem dX12_findThere_77 : decode cX12_findThere 77 = .ok (.ixor, 1) := by decide +kernel
theorem dX12_findThere_78 : decode cX12_findThere 78 = .ok (.iand, 1) := by decide +kernel
theorem dX12_findThere_79 : decode cX12_findThere 79 = .ok (.iastore, 1) := by decide +kernel
theorem dX12_findThere_80 : decode cX12_findThere 80 = .ok (.iinc 1 (-1), 3) := by decide +kernel
theorem dX12_findThere_83 : decode cX12_findThere 83 = .ok (.goto (-55), 3) := by decide +kernel
theorem dX12_findThere_86 : decode cX12_findThere 86 = .ok (.return_, 1) := by decide +kernel
theorem dX12_amountOf_0 : decode cX12_amountOf 0 = .ok (.aload_n 0, 1) := by decide +kernel
theorem dX12_amountOf_1 : decode cX12_amountOf 1 = .ok (.getfield 43, 3) := by decide +kernel
theorem dX12_amountOf_4 : decode cX12_amountOf 4 = .ok (.iload_n 1, 1) := by decide +kernel
theorem dX12_amountOf_5 : decode cX12_amountOf 5 = .ok (.iaload, 1) := by decide +kernel
theorem dX12_amountOf_6 : decode cX12_amountOf 6 = .ok (.i2l, 1) := by decide +kernel
theorem dX12_amountOf_7 : decode cX12_amountOf 7 = .ok (.aload_n 0, 1) := by decide +kernel
theorem dX12_amountOf_8 : decode cX12_amountOf 8 = .ok (.getfield 46, 3) := by decide +kernel
theorem dX12_amountOf_11 : decode cX12_amountOf 11 = .ok (.iload_n 1, 1) := by decide +kernel
theorem dX12_amountOf_12 : decode cX12_amountOf 12 = .ok (.iaload, 1) := by decide +kernel
theorem dX12_amountOf_13 : decode cX12_amountOf 13 = .ok (.ifCond .ge 7, 3) := by decide +kernel
theorem dX12_amountOf_16 : decode cX12_amountOf 16 = .ok (.lconst 0, 1) := by decide +kernel
theorem dX12_amountOf_17 : decode cX12_amountOf 17 = .ok (.goto 34, 3) := by decide +kernel
theorem dX12_amountOf_20 : decode cX12_amountOf 20 = .ok (.aload_n 0, 1) := by decide +kernel
theorem dX12_amountOf_21 : decode cX12_amountOf 21 = .ok (.getfield 85, 3) := by decide +kernel
theorem dX12_amountOf_24 : decode cX12_amountOf 24 = .ok (.bipush 10, 2) := by decide +kernel
theorem dX12_amountOf_26 : decode cX12_amountOf 26 = .ok (.aload_n 0, 1) := by decide +kernel
theorem dX12_amountOf_27 : decode cX12_amountOf 27 = .ok (.getfield 228, 3) := by decide +kernel
theorem dX12_amountOf_30 : decode cX12_amountOf 30 = .ok (.imul, 1) := by decide +kernel
theorem dX12_amountOf_31 : decode cX12_amountOf 31 = .ok (.aload_n 0, 1) := by decide +kernel
theorem dX12_amountOf_32 : decode cX12_amountOf 32 = .ok (.getfield 46, 3) := by decide +kernel
theorem dX12_amountOf_35 : decode cX12_amountOf 35 = .ok (.iload_n 1, 1) := by decide +kernel
theorem dX12_amountOf_36 : decode cX12_amountOf 36 = .ok (.iaload, 1) := by decide +kernel
theorem dX12_amountOf_37 : decode cX12_amountOf 37 = .ok (.iadd, 1) := by decide +kernel
theorem dX12_amountOf_38 : decode cX12_amountOf 38 = .ok (.laload, 1) := by decide +kernel
theorem dX12_amountOf_39 : decode cX12_amountOf 39 = .ok (.aload_n 0, 1) := by decide +kernel
theorem dX12_amountOf_40 : decode cX12_amountOf 40 = .ok (.getfield 49, 3) := by decide +kernel
theorem dX12_amountOf_43 : decode cX12_amountOf 43 = .ok (.iload_n 1, 1) := by decide +kernel
theorem dX12_amountOf_44 : decode cX12_amountOf 44 = .ok (.iaload, 1) := by decide +kernel
theorem dX12_amountOf_45 : decode cX12_amountOf 45 = .ok (.i2l, 1) := by decide +kernel
theorem dX12_amountOf_46 : decode cX12_amountOf 46 = .ok (.lmul, 1) := by decide +kernel
theorem dX12_amountOf_47 : decode cX12_amountOf 47 = .ok (.ldc2_w 145, 3) := by decide +kernel
theorem dX12_amountOf_50 : decode cX12_amountOf 50 = .ok (.ldiv, 1) := by decide +kernel
theorem dX12_amountOf_51 : decode cX12_amountOf 51 = .ok (.ladd, 1) := by decide +kernel
theorem dX12_amountOf_52 : decode cX12_amountOf 52 = .ok (.lreturn, 1) := by decide +kernel
theorem dX12_works_0 : decode cX12_works 0 = .ok (.aload_n 0, 1) := by decide +kernel
theorem dX12_works_1 : decode cX12_works 1 = .ok (.getfield 25, 3) := by decide +kernel
theorem dX12_works_4 : decode cX12_works 4 = .ok (.iload_n 1, 1) := by decide +kernel
theorem dX12_works_5 : decode cX12_works 5 = .ok (.iaload, 1) := by decide +kernel
theorem dX12_works_6 : decode cX12_works 6 = .ok (.iload_n 2, 1) := by decide +kernel
theorem dX12_works_7 : decode cX12_works 7 = .ok (.if_icmp .ne 33, 3) := by decide +kernel
theorem dX12_works_10 : decode cX12_works 10 = .ok (.aload_n 0, 1) := by decide +kernel
theorem dX12_works_11 : decode cX12_works 11 = .ok (.getfield 28, 3) := by decide +kernel
theorem dX12_works_14 : decode cX12_works 14 = .ok (.iload_n 1, 1) := by decide +kernel
theorem dX12_works_15 : decode cX12_works 15 = .ok (.iaload, 1) := by decide +kernel
theorem dX12_works_16 : decode cX12_works 16 = .ok (.iload_n 3, 1) := by decide +kernel
theorem dX12_works_17 : decode cX12_works 17 = .ok (.if_icmp .ne 23, 3) := by decide +kernel
theorem dX12_works_20 : decode cX12_works 20 = .ok (.aload_n 0, 1) := by decide +kernel
theorem dX12_works_21 : decode cX12_works 21 = .ok (.iload_n 1, 1) := by decide +kernel
theorem dX12_works_22 : decode cX12_works 22 = .ok (.invokevirtual 231, 3) := by decide +kernel
theorem dX12_works_25 : decode cX12_works 25 = .ok (.ifCond .eq 15, 3) := by decide +kernel
theorem dX12_works_28 : decode cX12_works 28 = .ok (.aload_n 0, 1) := by decide +kernel
theorem dX12_works_29 : decode cX12_works 29 = .ok (.iload_n 1, 1) := by decide +kernel
theorem dX12_works_30 : decode cX12_works 30 = .ok (.invokevirtual 234, 3) := by decide +kernel
theorem dX12_works_33 : decode cX12_works 33 = .ok (.ifCond .eq 7, 3) := by decide +kernel
theorem dX12_works_36 : decode cX12_works 36 = .ok (.iconst 1, 1) := by decide +kernel
theorem dX12_works_37 : decode cX12_works 37 = .ok (.goto 4, 3) := by decide +kernel
theorem dX12_works_40 : decode cX12_works 40 = .ok (.iconst 0, 1) := by decide +kernel
theorem dX12_works_41 : decode cX12_works 41 = .ok (.ireturn, 1) := by decide +kernel
theorem dX12_based_0 : decode cX12_based 0 = .ok (.iconst (-1), 1) := by decide +kernel
theorem dX12_based_1 : decode cX12_based 1 = .ok (.istore_n 2, 1) := by decide +kernel
theorem dX12_based_2 : decode cX12_based 2 = .ok (.iconst 0, 1) := by decide +kernel
theorem dX12_based_3 : decode cX12_based 3 = .ok (.istore_n 3, 1) := by decide +kernel
theorem dX12_based_4 : decode cX12_based 4 = .ok (.iload_n 3, 1) := by decide +kernel
theorem dX12_based_5 : decode cX12_based 5 = .ok (.aload_n 0, 1) := by decide +kernel
theorem dX12_based_6 : decode cX12_based 6 = .ok (.getfield 70, 3) := by decide +kernel
theorem dX12_based_9 : decode cX12_based 9 = .ok (.iconst 1, 1) := by decide +kernel
theorem dX12_based_10 : decode cX12_based 10 = .ok (.iaload, 1) := by decide +kernel
theorem dX12_based_11 : decode cX12_based 11 = .ok (.if_icmp .ge 40, 3) := by decide +kernel
theorem dX12_based_14 : decode cX12_based 14 = .ok (.aload_n 0, 1) := by decide +kernel
theorem dX12_based_15 : decode cX12_based 15 = .ok (.iload_n 3, 1) := by decide +kernel
theorem dX12_based_16 : decode cX12_based 16 = .ok (.iconst 2, 1) := by decide +kernel
theorem dX12_based_17 : decode cX12_based 17 = .ok (.iload_n 1, 1) := by decide +kernel
theorem dX12_based_18 : decode cX12_based 18 = .ok (.invokevirtual 237, 3) := by decide +kernel
theorem dX12_based_21 : decode cX12_based 21 = .ok (.ifCond .eq 24, 3) := by decide +kernel
theorem dX12_based_24 : decode cX12_based 24 = .ok (.iload_n 2, 1) := by decide +kernel
theorem dX12_based_25 : decode cX12_based 25 = .ok (.ifCond .lt 18, 3) := by decide +kernel
theorem dX12_based_28 : decode cX12_based 28 = .ok (.aload_n 0, 1) := by decide +kernel
theorem dX12_based_29 : decode cX12_based 29 = .ok (.getfield 31, 3) := by decide +kernel
theorem dX12_based_32 : decode cX12_based 32 = .ok (.iload_n 3, 1) := by decide +kernel
theorem dX12_based_33 : decode cX12_based 33 = .ok (.iaload, 1) := by decide +kernel
theorem dX12_based_34 : decode cX12_based 34 = .ok (.aload_n 0, 1) := by decide +kernel
theorem dX12_based_35 : decode cX12_based 35 = .ok (.getfield 31, 3) := by decide +kernel
theorem dX12_based_38 : decode cX12_based 38 = .ok (.iload_n 2, 1) := by decide +kernel
theorem dX12_based_39 : decode cX12_based 39 = .ok (.iaload, 1) := by decide +kernel
theorem dX12_based_40 : decode cX12_based 40 = .ok (.if_icmp .le 5, 3) := by decide +kernel
theorem dX12_based_43 : decode cX12_based 43 = .ok (.iload_n 3, 1) := by decide +kernel
theorem dX12_based_44 : decode cX12_based 44 = .ok (.istore_n 2, 1) := by decide +kernel
theorem dX12_based_45 : decode cX12_based 45 = .ok (.iinc 3 1, 3) := by decide +kernel
theorem dX12_based_48 : decode cX12_based 48 = .ok (.goto (-44), 3) := by decide +kernel
theorem dX12_based_51 : decode cX12_based 51 = .ok (.aload_n 0, 1) := by decide +kernel
theorem dX12_based_52 : decode cX12_based 52 = .ok (.getfield 105, 3) := by decide +kernel
theorem dX12_based_55 : decode cX12_based 55 = .ok (.iload_n 1, 1) := by decide +kernel
theorem dX12_based_56 : decode cX12_based 56 = .ok (.iconst 0, 1) := by decide +kernel
theorem dX12_based_57 : decode cX12_based 57 = .ok (.bastore, 1) := by decide +kernel
theorem dX12_based_58 : decode cX12_based 58 = .ok (.iload_n 2, 1) := by decide +kernel
theorem dX12_based_59 : decode cX12_based 59 = .ok (.ifCond .ge 11, 3) := by decide +kernel
theorem dX12_based_62 : decode cX12_based 62 = .ok (.aload_n 0, 1) := by decide +kernel
theorem dX12_based_63 : decode cX12_based 63 = .ok (.getfield 13, 3) := by decide +kernel
theorem dX12_based_66 : decode cX12_based 66 = .ok (.iload_n 1, 1) := by decide +kernel
theorem dX12_based_67 : decode cX12_based 67 = .ok (.iaload, 1) := by decide +kernel
theorem dX12_based_68 : decode cX12_based 68 = .ok (.i2l, 1) := by decide +kernel
theorem dX12_based_69 : decode cX12_based 69 = .ok (.lreturn, 1) := by decide +kernel
theorem dX12_based_70 : decode cX12_based 70 = .ok (.iconst 0, 1) := by decide +kernel
theorem dX12_based_71 : decode cX12_based 71 = .ok (.istore_n 3, 1) := by decide +kernel
theorem dX12_based_72 : decode cX12_based 72 = .ok (.iload_n 3, 1) := by decide +kernel
theorem dX12_based_73 : decode cX12_based 73 = .ok (.aload_n 0, 1) := by decide +kernel
theorem dX12_based_74 : decode cX12_based 74 = .ok (.getfield 70, 3) := by decide +kernel
theorem dX12_based_77 : decode cX12_based 77 = .ok (.iconst 1, 1) := by decide +kernel
theorem dX12_based_78 : decode cX12_based 78 = .ok (.iaload, 1) := by decide +kernel
theorem dX12_based_79 : decode cX12_based 79 = .ok (.if_icmp .ge 103, 3) := by decide +kernel
theorem dX12_based_82 : decode cX12_based 82 = .ok (.aload_n 0, 1) := by decide +kernel
theorem dX12_based_83 : decode cX12_based 83 = .ok (.iload_n 3, 1) := by decide +kernel
theorem dX12_based_84 : decode cX12_based 84 = .ok (.iconst 2, 1) := by decide +kernel
theorem dX12_based_85 : decode cX12_based 85 = .ok (.iload_n 1, 1) := by decide +kernel
theorem dX12_based_86 : decode cX12_based 86 = .ok (.invokevirtual 237, 3) := by decide +kernel
theorem dX12_based_89 : decode cX12_based 89 = .ok (.ifCond .ne 6, 3) := by decide +kernel
theorem dX12_based_92 : decode cX12_based 92 = .ok (.goto 84, 3) := by decide +kernel
theorem dX12_based_95 : decode cX12_based 95 = .ok (.aload_n 0, 1) := by decide +kernel
theorem dX12_based_96 : decode cX12_based 96 = .ok (.getfield 99, 3) := by decide +kernel
theorem dX12_based_99 : decode cX12_based 99 = .ok (.iload_n 3, 1) := by decide +kernel
theorem dX12_based_100 : decode cX12_based 100 = .ok (.iload_n 3, 1) := by decide +kernel
theorem dX12_based_101 : decode cX12_based 101 = .ok (.iload_n 2, 1) := by decide +kernel
theorem dX12_based_102 : decode cX12_based 102 = .ok (.if_icmp .ne 7, 3) := by decide +kernel
theorem dX12_based_105 : decode cX12_based 105 = .ok (.iconst 2, 1) := by decide +kernel
theorem dX12_based_106 : decode cX12_based 106 = .ok (.goto 4, 3) := by decide +kernel
theorem dX12_based_109 : decode cX12_based 109 = .ok (.iconst 4, 1) := by decide +kernel
theorem dX12_based_110 : decode cX12_based 110 = .ok (.iastore, 1) := by decide +kernel
theorem dX12_based_111 : decode cX12_based 111 = .ok (.aload_n 0, 1) := by decide +kernel
theorem dX12_based_112 : decode cX12_based 112 = .ok (.getfield 102, 3) := by decide +kernel
theorem dX12_based_115 : decode cX12_based 115 = .ok (.iload_n 3, 1) := by decide +kernel
theorem dX12_based_116 : decode cX12_based 116 = .ok (.iload_n 3, 1) := by decide +kernel
theorem dX12_based_117 : decode cX12_based 117 = .ok (.iload_n 2, 1) := by decide +kernel
theorem dX12_based_118 : decode cX12_based 118 = .ok (.if_icmp .ne 7, 3) := by decide +kernel
theorem dX12_based_121 : decode cX12_based 121 = .ok (.iconst (-1), 1) := by decide +kernel
theorem dX12_based_122 : decode cX12_based 122 = .ok (.goto 4, 3) := by decide +kernel
theorem dX12_based_125 : decode cX12_based 125 = .ok (.iload_n 2, 1) := by decide +kernel
theorem dX12_based_126 : decode cX12_based 126 = .ok (.iastore, 1) := by decide +kernel
theorem dX12_based_127 : decode cX12_based 127 = .ok (.aload_n 0, 1) := by decide +kernel
theorem dX12_based_128 : decode cX12_based 128 = .ok (.getfield 105, 3) := by decide +kernel
theorem dX12_based_131 : decode cX12_based 131 = .ok (.iload_n 1, 1) := by decide +kernel
theorem dX12_based_132 : decode cX12_based 132 = .ok (.aload_n 0, 1) := by decide +kernel
theorem dX12_based_133 : decode cX12_based 133 = .ok (.getfield 105, 3) := by decide +kernel
theorem dX12_based_136 : decode cX12_based 136 = .ok (.iload_n 1, 1) := by decide +kernel
theorem dX12_based_137 : decode cX12_based 137 = .ok (.baload, 1) := by decide +kernel
theorem dX12_based_138 : decode cX12_based 138 = .ok (.ifCond .ne 32, 3) := by decide +kernel
theorem dX12_based_141 : decode cX12_based 141 = .ok (.aload_n 0, 1) := by decide +kernel
theorem dX12_based_142 : decode cX12_based 142 = .ok (.getfield 31, 3) := by decide +kernel
theorem dX12_based_145 : decode cX12_based 145 = .ok (.iload_n 3, 1) := by decide +kernel
theorem dX12_based_146 : decode cX12_based 146 = .ok (.iaload, 1) := by decide +kernel
theorem dX12_based_147 : decode cX12_based 147 = .ok (.aload_n 0, 1) := by decide +kernel
theorem dX12_based_148 : decode cX12_based 148 = .ok (.getfield 31, 3) := by decide +kernel
theorem dX12_based_151 : decode cX12_based 151 = .ok (.iload_n 2, 1) := by decide +kernel
theorem dX12_based_152 : decode cX12_based 152 = .ok (.iaload, 1) := by decide +kernel
theorem dX12_based_153 : decode cX12_based 153 = .ok (.if_icmp .ne 21, 3) := by decide +kernel
theorem dX12_based_156 : decode cX12_based 156 = .ok (.aload_n 0, 1) := by decide +kernel
theorem dX12_based_157 : decode cX12_based 157 = .ok (.iload_n 3, 1) := by decide +kernel
theorem dX12_based_158 : decode cX12_based 158 = .ok (.invokevirtual 241, 3) := by decide +kernel
theorem dX12_based_161 : decode cX12_based 161 = .ok (.aload_n 0, 1) := by decide +kernel
theorem dX12_based_162 : decode cX12_based 162 = .ok (.iload_n 2, 1) := by decide +kernel
theorem dX12_based_163 : decode cX12_based 163 = .ok (.invokevirtual 241, 3) := by decide +kernel
theorem dX12_based_166 : decode cX12_based 166 = .ok (.lcmp, 1) := by decide +kernel
theorem dX12_based_167 : decode cX12_based 167 = .ok (.ifCond .eq 7, 3) := by decide +kernel
theorem dX12_based_170 : decode cX12_based 170 = .ok (.iconst 1, 1) := by decide +kernel
theorem dX12_based_171 : decode cX12_based 171 = .ok (.goto 4, 3) := by decide +kernel
theorem dX12_based_174 : decode cX12_based 174 = .ok (.iconst 0, 1) := by decide +kernel
theorem dX12_based_175 : decode cX12_based 175 = .ok (.bastore, 1) := by decide +kernel
theorem dX12_based_176 : decode cX12_based 176 = .ok (.iinc 3 1, 3) := by decide +kernel
theorem dX12_based_179 : decode cX12_based 179 = .ok (.goto (-107), 3) := by decide +kernel
theorem dX12_based_182 : decode cX12_based 182 = .ok (.aload_n 0, 1) := by decide +kernel
theorem dX12_based_183 : decode cX12_based 183 = .ok (.iload_n 2, 1) := by decide +kernel
theorem dX12_based_184 : decode cX12_based 184 = .ok (.invokevirtual 241, 3) := by decide +kernel
theorem dX12_based_187 : decode cX12_based 187 = .ok (.lreturn, 1) := by decide +kernel
theorem dX12_adds__0 : decode cX12_adds_ 0 = .ok (.aload_n 0, 1) := by decide +kernel
theorem dX12_adds__1 : decode cX12_adds_ 1 = .ok (.iload_n 1, 1) := by decide +kernel
theorem dX12_adds__2 : decode cX12_adds_ 2 = .ok (.iconst 0, 1) := by decide +kernel
theorem dX12_adds__3 : decode cX12_adds_ 3 = .ok (.iload_n 2, 1) := by decide +kernel
theorem dX12_adds__4 : decode cX12_adds_ 4 = .ok (.invokevirtual 237, 3) := by decide +kernel
theorem dX12_adds__7 : decode cX12_adds_ 7 = .ok (.ifCond .ne 13, 3) := by decide +kernel
theorem dX12_adds__10 : decode cX12_adds_ 10 = .ok (.aload_n 0, 1) := by decide +kernel
theorem dX12_adds__11 : decode cX12_adds_ 11 = .ok (.iload_n 1, 1) := by decide +kernel
theorem dX12_adds__12 : decode cX12_adds_ 12 = .ok (.iconst 1, 1) := by decide +kernel
theorem dX12_adds__13 : decode cX12_adds_ 13 = .ok (.iload_n 2, 1) := by decide +kernel
theorem dX12_adds__14 : decode cX12_adds_ 14 = .ok (.invokevirtual 237, 3) := by decide +kernel
theorem dX12_adds__17 : decode cX12_adds_ 17 = .ok (.ifCond .eq 7, 3) := by decide +kernel
theorem dX12_adds__20 : decode cX12_adds_ 20 = .ok (.iconst 1, 1) := by decide +kernel
theorem dX12_adds__21 : decode cX12_adds_ 21 = .ok (.goto 4, 3) := by decide +kernel
theorem dX12_adds__24 : decode cX12_adds_ 24 = .ok (.iconst 0, 1) := by decide +kernel
theorem dX12_adds__25 : decode cX12_adds_ 25 = .ok (.ireturn, 1) := by decide +kernel
theorem dX12_firstOf_0 : decode cX12_firstOf 0 = .ok (.aload_n 0, 1) := by decide +kernel
theorem dX12_firstOf_1 : decode cX12_firstOf 1 = .ok (.getfield 34, 3) := by decide +kernel
theorem dX12_firstOf_4 : decode cX12_firstOf 4 = .ok (.iload_n 1, 1) := by decide +kernel
theorem dX12_firstOf_5 : decode cX12_firstOf 5 = .ok (.iaload, 1) := by decide +kernel
theorem dX12_firstOf_6 : decode cX12_firstOf 6 = .ok (.ifCond .ne 5, 3) := by decide +kernel
theorem dX12_firstOf_9 : decode cX12_firstOf 9 = .ok (.iload_n 1, 1) := by decide +kernel
theorem dX12_firstOf_10 : decode cX12_firstOf 10 = .ok (.ireturn, 1) := by decide +kernel
theorem dX12_firstOf_11 : decode cX12_firstOf 11 = .ok (.iconst 0, 1) := by decide +kernel
theorem dX12_firstOf_12 : decode cX12_firstOf 12 = .ok (.istore_n 3, 1) := by decide +kernel
theorem dX12_firstOf_13 : decode cX12_firstOf 13 = .ok (.aload_n 0, 1) := by decide +kernel
theorem dX12_firstOf_14 : decode cX12_firstOf 14 = .ok (.iload_n 3, 1) := by decide +kernel
theorem dX12_firstOf_15 : decode cX12_firstOf 15 = .ok (.iload_n 2, 1) := by decide +kernel
theorem dX12_firstOf_16 : decode cX12_firstOf 16 = .ok (.invokevirtual 245, 3) := by decide +kernel
theorem dX12_firstOf_19 : decode cX12_firstOf 19 = .ok (.ifCond .eq 18, 3) := by decide +kernel
theorem dX12_firstOf_22 : decode cX12_firstOf 22 = .ok (.aload_n 0, 1) := by decide +kernel
theorem dX12_firstOf_23 : decode cX12_firstOf 23 = .ok (.getfield 34, 3) := by decide +kernel
theorem dX12_firstOf_26 : decode cX12_firstOf 26 = .ok (.iload_n 3, 1) := by decide +kernel
theorem dX12_firstOf_27 : decode cX12_firstOf 27 = .ok (.iaload, 1) := by decide +kernel
theorem dX12_firstOf_28 : decode cX12_firstOf 28 = .ok (.aload_n 0, 1) := by decide +kernel
theorem dX12_firstOf_29 : decode cX12_firstOf 29 = .ok (.getfield 34, 3) := by decide +kernel
theorem dX12_firstOf_32 : decode cX12_firstOf 32 = .ok (.iload_n 1, 1) := by decide +kernel
theorem dX12_firstOf_33 : decode cX12_firstOf 33 = .ok (.iaload, 1) := by decide +kernel
theorem dX12_firstOf_34 : decode cX12_firstOf 34 = .ok (.if_icmp .eq 9, 3) := by decide +kernel
theorem dX12_firstOf_37 : decode cX12_firstOf 37 = .ok (.iinc 3 1, 3) := by decide +kernel
theorem dX12_firstOf_40 : decode cX12_firstOf 40 = .ok (.goto (-27), 3) := by decide +kernel
theorem dX12_firstOf_43 : decode cX12_firstOf 43 = .ok (.iload_n 3, 1) := by decide +kernel
theorem dX12_firstOf_44 : decode cX12_firstOf 44 = .ok (.ireturn, 1) := by decide +kernel
theorem dX12_counts_0 : decode cX12_counts 0 = .ok (.aload_n 0, 1) := by decide +kernel
theorem dX12_counts_1 : decode cX12_counts 1 = .ok (.iload_n 1, 1) := by decide +kernel
theorem dX12_counts_2 : decode cX12_counts 2 = .ok (.iload_n 2, 1) := by decide +kernel
theorem dX12_counts_3 : decode cX12_counts 3 = .ok (.invokevirtual 245, 3) := by decide +kernel
theorem dX12_counts_6 : decode cX12_counts 6 = .ok (.ifCond .eq 17, 3) := by decide +kernel
theorem dX12_counts_9 : decode cX12_counts 9 = .ok (.aload_n 0, 1) := by decide +kernel
theorem dX12_counts_10 : decode cX12_counts 10 = .ok (.iload_n 1, 1) := by decide +kernel
theorem dX12_counts_11 : decode cX12_counts 11 = .ok (.iload_n 2, 1) := by decide +kernel
theorem dX12_counts_12 : decode cX12_counts 12 = .ok (.invokevirtual 247, 3) := by decide +kernel
theorem dX12_counts_15 : decode cX12_counts 15 = .ok (.iload_n 1, 1) := by decide +kernel
theorem dX12_counts_16 : decode cX12_counts 16 = .ok (.if_icmp .ne 7, 3) := by decide +kernel
theorem dX12_counts_19 : decode cX12_counts 19 = .ok (.iconst 1, 1) := by decide +kernel
theorem dX12_counts_20 : decode cX12_counts 20 = .ok (.goto 4, 3) := by decide +kernel
theorem dX12_counts_23 : decode cX12_counts 23 = .ok (.iconst 0, 1) := by decide +kernel
theorem dX12_counts_24 : decode cX12_counts 24 = .ok (.ireturn, 1) := by decide +kernel
theorem dX12_bestOf_0 : decode cX12_bestOf 0 = .ok (.iconst (-1), 1) := by decide +kernel
theorem dX12_bestOf_1 : decode cX12_bestOf 1 = .ok (.istore 4, 2) := by decide +kernel
theorem dX12_bestOf_3 : decode cX12_bestOf 3 = .ok (.iconst 0, 1) := by decide +kernel
theorem dX12_bestOf_4 : decode cX12_bestOf 4 = .ok (.istore 5, 2) := by decide +kernel
theorem dX12_bestOf_6 : decode cX12_bestOf 6 = .ok (.iload 5, 2) := by decide +kernel
theorem dX12_bestOf_8 : decode cX12_bestOf 8 = .ok (.aload_n 0, 1) := by decide +kernel
theorem dX12_bestOf_9 : decode cX12_bestOf 9 = .ok (.getfield 70, 3) := by decide +kernel
theorem dX12_bestOf_12 : decode cX12_bestOf 12 = .ok (.iconst 1, 1) := by decide +kernel
theorem dX12_bestOf_13 : decode cX12_bestOf 13 = .ok (.iaload, 1) := by decide +kernel
theorem dX12_bestOf_14 : decode cX12_bestOf 14 = .ok (.if_icmp .ge 86, 3) := by decide +kernel
theorem dX12_bestOf_17 : decode cX12_bestOf 17 = .ok (.aload_n 0, 1) := by decide +kernel
theorem dX12_bestOf_18 : decode cX12_bestOf 18 = .ok (.iload 5, 2) := by decide +kernel
theorem dX12_bestOf_20 : decode cX12_bestOf 20 = .ok (.iload_n 1, 1) := by decide +kernel
theorem dX12_bestOf_21 : decode cX12_bestOf 21 = .ok (.invokevirtual 251, 3) := by decide +kernel
theorem dX12_bestOf_24 : decode cX12_bestOf 24 = .ok (.ifCond .eq 70, 3) := by decide +kernel
theorem dX12_bestOf_27 : decode cX12_bestOf 27 = .ok (.aload_n 0, 1) := by decide +kernel
theorem dX12_bestOf_28 : decode cX12_bestOf 28 = .ok (.getfield 25, 3) := by decide +kernel
theorem dX12_bestOf_31 : decode cX12_bestOf 31 = .ok (.iload 5, 2) := by decide +kernel
theorem dX12_bestOf_33 : decode cX12_bestOf 33 = .ok (.iaload, 1) := by decide +kernel
theorem dX12_bestOf_34 : decode cX12_bestOf 34 = .ok (.iconst 1, 1) := by decide +kernel
theorem dX12_bestOf_35 : decode cX12_bestOf 35 = .ok (.if_icmp .ne 59, 3) := by decide +kernel
theorem dX12_bestOf_38 : decode cX12_bestOf 38 = .ok (.aload_n 0, 1) := by decide +kernel
theorem dX12_bestOf_39 : decode cX12_bestOf 39 = .ok (.getfield 37, 3) := by decide +kernel
theorem dX12_bestOf_42 : decode cX12_bestOf 42 = .ok (.iload 5, 2) := by decide +kernel
theorem dX12_bestOf_44 : decode cX12_bestOf 44 = .ok (.iaload, 1) := by decide +kernel
theorem dX12_bestOf_45 : decode cX12_bestOf 45 = .ok (.iload_n 2, 1) := by decide +kernel
theorem dX12_bestOf_46 : decode cX12_bestOf 46 = .ok (.if_icmp .eq 6, 3) := by decide +kernel
theorem dX12_bestOf_49 : decode cX12_bestOf 49 = .ok (.goto 45, 3) := by decide +kernel
theorem dX12_bestOf_52 : decode cX12_bestOf 52 = .ok (.aload_n 0, 1) := by decide +kernel
theorem dX12_bestOf_53 : decode cX12_bestOf 53 = .ok (.iload 5, 2) := by decide +kernel
theorem dX12_bestOf_55 : decode cX12_bestOf 55 = .ok (.invokevirtual 241, 3) := by decide +kernel
theorem dX12_bestOf_58 : decode cX12_bestOf 58 = .ok (.iload_n 3, 1) := by decide +kernel
theorem dX12_bestOf_59 : decode cX12_bestOf 59 = .ok (.i2l, 1) := by decide +kernel
theorem dX12_bestOf_60 : decode cX12_bestOf 60 = .ok (.lmul, 1) := by decide +kernel
theorem dX12_bestOf_61 : decode cX12_bestOf 61 = .ok (.lstore 6, 2) := by decide +kernel
theorem dX12_bestOf_63 : decode cX12_bestOf 63 = .ok (.lload 6, 2) := by decide +kernel
theorem dX12_bestOf_65 : decode cX12_bestOf 65 = .ok (.lconst 0, 1) := by decide +kernel
theorem dX12_bestOf_66 : decode cX12_bestOf 66 = .ok (.lcmp, 1) := by decide +kernel
theorem dX12_bestOf_67 : decode cX12_bestOf 67 = .ok (.ifCond .le 27, 3) := by decide +kernel
theorem dX12_bestOf_70 : decode cX12_bestOf 70 = .ok (.iload 4, 2) := by decide +kernel
theorem dX12_bestOf_72 : decode cX12_bestOf 72 = .ok (.ifCond .lt 18, 3) := by decide +kernel
theorem dX12_bestOf_75 : decode cX12_bestOf 75 = .ok (.lload 6, 2) := by decide +kernel
theorem dX12_bestOf_77 : decode cX12_bestOf 77 = .ok (.aload_n 0, 1) := by decide +kernel
theorem dX12_bestOf_78 : decode cX12_bestOf 78 = .ok (.iload 4, 2) := by decide +kernel
theorem dX12_bestOf_80 : decode cX12_bestOf 80 = .ok (.invokevirtual 241, 3) := by decide +kernel
theorem dX12_bestOf_83 : decode cX12_bestOf 83 = .ok (.iload_n 3, 1) := by decide +kernel
theorem dX12_bestOf_84 : decode cX12_bestOf 84 = .ok (.i2l, 1) := by decide +kernel
theorem dX12_bestOf_85 : decode cX12_bestOf 85 = .ok (.lmul, 1) := by decide +kernel
theorem dX12_bestOf_86 : decode cX12_bestOf 86 = .ok (.lcmp, 1) := by decide +kernel
theorem dX12_bestOf_87 : decode cX12_bestOf 87 = .ok (.ifCond .le 7, 3) := by decide +kernel
theorem dX12_bestOf_90 : decode cX12_bestOf 90 = .ok (.iload 5, 2) := by decide +kernel
theorem dX12_bestOf_92 : decode cX12_bestOf 92 = .ok (.istore 4, 2) := by decide +kernel
theorem dX12_bestOf_94 : decode cX12_bestOf 94 = .ok (.iinc 5 1, 3) := by decide +kernel
theorem dX12_bestOf_97 : decode cX12_bestOf 97 = .ok (.goto (-91), 3) := by decide +kernel
theorem dX12_bestOf_100 : decode cX12_bestOf 100 = .ok (.iload 4, 2) := by decide +kernel
theorem dX12_bestOf_102 : decode cX12_bestOf 102 = .ok (.ireturn, 1) := by decide +kernel
theorem dX12_added_0 : decode cX12_added 0 = .ok (.lconst 0, 1) := by decide +kernel
theorem dX12_added_1 : decode cX12_added 1 = .ok (.lstore_n 2, 1) := by decide +kernel
theorem dX12_added_2 : decode cX12_added 2 = .ok (.iconst 0, 1) := by decide +kernel
theorem dX12_added_3 : decode cX12_added 3 = .ok (.istore 4, 2) := by decide +kernel
theorem dX12_added_5 : decode cX12_added 5 = .ok (.iload 4, 2) := by decide +kernel
theorem dX12_added_7 : decode cX12_added 7 = .ok (.aload_n 0, 1) := by decide +kernel
theorem dX12_added_8 : decode cX12_added 8 = .ok (.getfield 70, 3) := by decide +kernel
theorem dX12_added_11 : decode cX12_added 11 = .ok (.iconst 1, 1) := by decide +kernel
theorem dX12_added_12 : decode cX12_added 12 = .ok (.iaload, 1) := by decide +kernel
theorem dX12_added_13 : decode cX12_added 13 = .ok (.if_icmp .ge 212, 3) := by decide +kernel
theorem dX12_added_16 : decode cX12_added 16 = .ok (.aload_n 0, 1) := by decide +kernel
theorem dX12_added_17 : decode cX12_added 17 = .ok (.iload 4, 2) := by decide +kernel
theorem dX12_added_19 : decode cX12_added 19 = .ok (.iload_n 1, 1) := by decide +kernel
theorem dX12_added_20 : decode cX12_added 20 = .ok (.invokevirtual 245, 3) := by decide +kernel
theorem dX12_added_23 : decode cX12_added 23 = .ok (.ifCond .ne 6, 3) := by decide +kernel
theorem dX12_added_26 : decode cX12_added 26 = .ok (.goto 193, 3) := by decide +kernel
theorem dX12_added_29 : decode cX12_added 29 = .ok (.aload_n 0, 1) := by decide +kernel
theorem dX12_added_30 : decode cX12_added 30 = .ok (.iload 4, 2) := by decide +kernel
theorem dX12_added_32 : decode cX12_added 32 = .ok (.invokevirtual 241, 3) := by decide +kernel
theorem dX12_added_35 : decode cX12_added 35 = .ok (.lstore 5, 2) := by decide +kernel
theorem dX12_added_37 : decode cX12_added 37 = .ok (.aload_n 0, 1) := by decide +kernel
theorem dX12_added_38 : decode cX12_added 38 = .ok (.iload 4, 2) := by decide +kernel
theorem dX12_added_40 : decode cX12_added 40 = .ok (.iload_n 1, 1) := by decide +kernel
theorem dX12_added_41 : decode cX12_added 41 = .ok (.invokevirtual 247, 3) := by decide +kernel
theorem dX12_added_44 : decode cX12_added 44 = .ok (.istore 7, 2) := by decide +kernel
theorem dX12_added_46 : decode cX12_added 46 = .ok (.aload_n 0, 1) := by decide +kernel
theorem dX12_added_47 : decode cX12_added 47 = .ok (.getfield 102, 3) := by decide +kernel
theorem dX12_added_50 : decode cX12_added 50 = .ok (.iload 4, 2) := by decide +kernel
theorem dX12_added_52 : decode cX12_added 52 = .ok (.iconst (-1), 1) := by decide +kernel
theorem dX12_added_53 : decode cX12_added 53 = .ok (.iastore, 1) := by decide +kernel
theorem dX12_added_54 : decode cX12_added 54 = .ok (.iload 7, 2) := by decide +kernel
theorem dX12_added_56 : decode cX12_added 56 = .ok (.iload 4, 2) := by decide +kernel
theorem dX12_added_58 : decode cX12_added 58 = .ok (.if_icmp .eq 23, 3) := by decide +kernel
theorem dX12_added_61 : decode cX12_added 61 = .ok (.aload_n 0, 1) := by decide +kernel
theorem dX12_added_62 : decode cX12_added 62 = .ok (.getfield 99, 3) := by decide +kernel
theorem dX12_added_65 : decode cX12_added 65 = .ok (.iload 4, 2) := by decide +kernel
theorem dX12_added_67 : decode cX12_added 67 = .ok (.iconst 3, 1) := by decide +kernel
theorem dX12_added_68 : decode cX12_added 68 = .ok (.iastore, 1) := by decide +kernel
theorem dX12_added_69 : decode cX12_added 69 = .ok (.aload_n 0, 1) := by decide +kernel
theorem dX12_added_70 : decode cX12_added 70 = .ok (.getfield 102, 3) := by decide +kernel
theorem dX12_added_73 : decode cX12_added 73 = .ok (.iload 4, 2) := by decide +kernel
theorem dX12_added_75 : decode cX12_added 75 = .ok (.iload 7, 2) := by decide +kernel
theorem dX12_added_77 : decode cX12_added 77 = .ok (.iastore, 1) := by decide +kernel
theorem dX12_added_78 : decode cX12_added 78 = .ok (.goto 141, 3) := by decide +kernel
theorem dX12_added_81 : decode cX12_added 81 = .ok (.aload_n 0, 1) := by decide +kernel
theorem dX12_added_82 : decode cX12_added 82 = .ok (.getfield 25, 3) := by decide +kernel
theorem dX12_added_85 : decode cX12_added 85 = .ok (.iload 4, 2) := by decide +kernel
theorem dX12_added_87 : decode cX12_added 87 = .ok (.iaload, 1) := by decide +kernel
theorem dX12_added_88 : decode cX12_added 88 = .ok (.ifCond .eq 23, 3) := by decide +kernel
theorem dX12_added_91 : decode cX12_added 91 = .ok (.aload_n 0, 1) := by decide +kernel
theorem dX12_added_92 : decode cX12_added 92 = .ok (.getfield 70, 3) := by decide +kernel
theorem dX12_added_95 : decode cX12_added 95 = .ok (.iconst 5, 1) := by decide +kernel
theorem dX12_added_96 : decode cX12_added 96 = .ok (.iaload, 1) := by decide +kernel
theorem dX12_added_97 : decode cX12_added 97 = .ok (.aload_n 0, 1) := by decide +kernel
theorem dX12_added_98 : decode cX12_added 98 = .ok (.getfield 37, 3) := by decide +kernel
theorem dX12_added_101 : decode cX12_added 101 = .ok (.iload 4, 2) := by decide +kernel
theorem dX12_added_103 : decode cX12_added 103 = .ok (.iaload, 1) := by decide +kernel
theorem dX12_added_104 : decode cX12_added 104 = .ok (.ishr, 1) := by decide +kernel
theorem dX12_added_105 : decode cX12_added 105 = .ok (.iconst 1, 1) := by decide +kernel
theorem dX12_added_106 : decode cX12_added 106 = .ok (.iand, 1) := by decide +kernel
theorem dX12_added_107 : decode cX12_added 107 = .ok (.iconst 1, 1) := by decide +kernel
theorem dX12_added_108 : decode cX12_added 108 = .ok (.if_icmp .ne 19, 3) := by decide +kernel
theorem dX12_added_111 : decode cX12_added 111 = .ok (.aload_n 0, 1) := by decide +kernel
theorem dX12_added_112 : decode cX12_added 112 = .ok (.getfield 99, 3) := by decide +kernel
theorem dX12_added_115 : decode cX12_added 115 = .ok (.iload 4, 2) := by decide +kernel
theorem dX12_added_117 : decode cX12_added 117 = .ok (.iconst 2, 1) := by decide +kernel
theorem dX12_added_118 : decode cX12_added 118 = .ok (.iastore, 1) := by decide +kernel
theorem dX12_added_119 : decode cX12_added 119 = .ok (.lload_n 2, 1) := by decide +kernel
theorem dX12_added_120 : decode cX12_added 120 = .ok (.lload 5, 2) := by decide +kernel
theorem dX12_added_122 : decode cX12_added 122 = .ok (.ladd, 1) := by decide +kernel
theorem dX12_added_123 : decode cX12_added 123 = .ok (.lstore_n 2, 1) := by decide +kernel
theorem dX12_added_124 : decode cX12_added 124 = .ok (.goto 95, 3) := by decide +kernel
theorem dX12_added_127 : decode cX12_added 127 = .ok (.lload 5, 2) := by decide +kernel
theorem dX12_added_129 : decode cX12_added 129 = .ok (.lconst 0, 1) := by decide +kernel
theorem dX12_added_130 : decode cX12_added 130 = .ok (.lcmp, 1) := by decide +kernel
theorem dX12_added_131 : decode cX12_added 131 = .ok (.ifCond .ne 7, 3) := by decide +kernel
theorem dX12_added_134 : decode cX12_added 134 = .ok (.iconst (-1), 1) := by decide +kernel
theorem dX12_added_135 : decode cX12_added 135 = .ok (.goto 27, 3) := by decide +kernel
theorem dX12_added_138 : decode cX12_added 138 = .ok (.aload_n 0, 1) := by decide +kernel
theorem dX12_added_139 : decode cX12_added 139 = .ok (.iload_n 1, 1) := by decide +kernel
theorem dX12_added_140 : decode cX12_added 140 = .ok (.aload_n 0, 1) := by decide +kernel
theorem dX12_added_141 : decode cX12_added 141 = .ok (.getfield 37, 3) := by decide +kernel
theorem dX12_added_144 : decode cX12_added 144 = .ok (.iload 4, 2) := by decide +kernel
theorem dX12_added_146 : decode cX12_added 146 = .ok (.iaload, 1) := by decide +kernel
theorem dX12_added_147 : decode cX12_added 147 = .ok (.lload 5, 2) := by decide +kernel
theorem dX12_added_149 : decode cX12_added 149 = .ok (.lconst 0, 1) := by decide +kernel
theorem dX12_added_150 : decode cX12_added 150 = .ok (.lcmp, 1) := by decide +kernel
theorem dX12_added_151 : decode cX12_added 151 = .ok (.ifCond .le 7, 3) := by decide +kernel
theorem dX12_added_154 : decode cX12_added 154 = .ok (.iconst 1, 1) := by decide +kernel
theorem dX12_added_155 : decode cX12_added 155 = .ok (.goto 4, 3) := by decide +kernel
theorem dX12_added_158 : decode cX12_added 158 = .ok (.iconst (-1), 1) := by decide +kernel
theorem dX12_added_159 : decode cX12_added 159 = .ok (.invokevirtual 254, 3) := by decide +kernel
theorem dX12_added_162 : decode cX12_added 162 = .ok (.istore 8, 2) := by decide +kernel
theorem dX12_added_164 : decode cX12_added 164 = .ok (.aload_n 0, 1) := by decide +kernel
theorem dX12_added_165 : decode cX12_added 165 = .ok (.getfield 99, 3) := by decide +kernel
theorem dX12_added_168 : decode cX12_added 168 = .ok (.iload 4, 2) := by decide +kernel
theorem dX12_added_170 : decode cX12_added 170 = .ok (.iload 8, 2) := by decide +kernel
theorem dX12_added_172 : decode cX12_added 172 = .ok (.iload 4, 2) := by decide +kernel
theorem dX12_added_174 : decode cX12_added 174 = .ok (.if_icmp .ne 7, 3) := by decide +kernel
theorem dX12_added_177 : decode cX12_added 177 = .ok (.iconst 2, 1) := by decide +kernel
theorem dX12_added_178 : decode cX12_added 178 = .ok (.goto 4, 3) := by decide +kernel
theorem dX12_added_181 : decode cX12_added 181 = .ok (.iconst 4, 1) := by decide +kernel
theorem dX12_added_182 : decode cX12_added 182 = .ok (.iastore, 1) := by decide +kernel
theorem dX12_added_183 : decode cX12_added 183 = .ok (.aload_n 0, 1) := by decide +kernel
theorem dX12_added_184 : decode cX12_added 184 = .ok (.getfield 102, 3) := by decide +kernel
theorem dX12_added_187 : decode cX12_added 187 = .ok (.iload 4, 2) := by decide +kernel
theorem dX12_added_189 : decode cX12_added 189 = .ok (.iload 8, 2) := by decide +kernel
theorem dX12_added_191 : decode cX12_added 191 = .ok (.iload 4, 2) := by decide +kernel
theorem dX12_added_193 : decode cX12_added 193 = .ok (.if_icmp .ne 7, 3) := by decide +kernel
theorem dX12_added_196 : decode cX12_added 196 = .ok (.iconst (-1), 1) := by decide +kernel
theorem dX12_added_197 : decode cX12_added 197 = .ok (.goto 5, 3) := by decide +kernel
theorem dX12_added_200 : decode cX12_added 200 = .ok (.iload 8, 2) := by decide +kernel
theorem dX12_added_202 : decode cX12_added 202 = .ok (.iastore, 1) := by decide +kernel
theorem dX12_added_203 : decode cX12_added 203 = .ok (.lload_n 2, 1) := by decide +kernel
theorem dX12_added_204 : decode cX12_added 204 = .ok (.iload 8, 2) := by decide +kernel
theorem dX12_added_206 : decode cX12_added 206 = .ok (.iload 4, 2) := by decide +kernel
theorem dX12_added_208 : decode cX12_added 208 = .ok (.if_icmp .ne 8, 3) := by decide +kernel
theorem dX12_added_211 : decode cX12_added 211 = .ok (.lload 5, 2) := by decide +kernel
theorem dX12_added_213 : decode cX12_added 213 = .ok (.goto 4, 3) := by decide +kernel
theorem dX12_added_216 : decode cX12_added 216 = .ok (.lconst 0, 1) := by decide +kernel
theorem dX12_added_217 : decode cX12_added 217 = .ok (.ladd, 1) := by decide +kernel
theorem dX12_added_218 : decode cX12_added 218 = .ok (.lstore_n 2, 1) := by decide +kernel
theorem dX12_added_219 : decode cX12_added 219 = .ok (.iinc 4 1, 3) := by decide +kernel
theorem dX12_added_222 : decode cX12_added 222 = .ok (.goto (-217), 3) := by decide +kernel
theorem dX12_added_225 : decode cX12_added 225 = .ok (.iconst 0, 1) := by decide +kernel
theorem dX12_added_226 : decode cX12_added 226 = .ok (.istore 4, 2) := by decide +kernel
theorem dX12_added_228 : decode cX12_added 228 = .ok (.iload 4, 2) := by decide +kernel
theorem dX12_added_230 : decode cX12_added 230 = .ok (.aload_n 0, 1) := by decide +kernel
theorem dX12_added_231 : decode cX12_added 231 = .ok (.getfield 70, 3) := by decide +kernel
theorem dX12_added_234 : decode cX12_added 234 = .ok (.iconst 2, 1) := by decide +kernel
theorem dX12_added_235 : decode cX12_added 235 = .ok (.iaload, 1) := by decide +kernel
theorem dX12_added_236 : decode cX12_added 236 = .ok (.if_icmp .ge 52, 3) := by decide +kernel
theorem dX12_added_239 : decode cX12_added 239 = .ok (.lload_n 2, 1) := by decide +kernel
theorem dX12_added_240 : decode cX12_added 240 = .ok (.aload_n 0, 1) := by decide +kernel
theorem dX12_added_241 : decode cX12_added 241 = .ok (.getfield 61, 3) := by decide +kernel
theorem dX12_added_244 : decode cX12_added 244 = .ok (.iload 4, 2) := by decide +kernel
theorem dX12_added_246 : decode cX12_added 246 = .ok (.iaload, 1) := by decide +kernel
theorem dX12_added_247 : decode cX12_added 247 = .ok (.iload_n 1, 1) := by decide +kernel
theorem dX12_added_248 : decode cX12_added 248 = .ok (.if_icmp .ne 31, 3) := by decide +kernel
theorem dX12_added_251 : decode cX12_added 251 = .ok (.aload_n 0, 1) := by decide +kernel
theorem dX12_added_252 : decode cX12_added 252 = .ok (.getfield 67, 3) := by decide +kernel
theorem dX12_added_255 : decode cX12_added 255 = .ok (.iload 4, 2) := by decide +kernel
theorem dX12_added_257 : decode cX12_added 257 = .ok (.iaload, 1) := by decide +kernel
theorem dX12_added_258 : decode cX12_added 258 = .ok (.aload_n 0, 1) := by decide +kernel
theorem dX12_added_259 : decode cX12_added 259 = .ok (.getfield 70, 3) := by decide +kernel
theorem dX12_added_262 : decode cX12_added 262 = .ok (.bipush 6, 2) := by decide +kernel
theorem dX12_added_264 : decode cX12_added 264 = .ok (.iaload, 1) := by decide +kernel
theorem dX12_added_265 : decode cX12_added 265 = .ok (.if_icmp .le 14, 3) := by decide +kernel
theorem dX12_added_268 : decode cX12_added 268 = .ok (.aload_n 0, 1) := by decide +kernel
theorem dX12_added_269 : decode cX12_added 269 = .ok (.getfield 64, 3) := by decide +kernel
theorem dX12_added_272 : decode cX12_added 272 = .ok (.iload 4, 2) := by decide +kernel
theorem dX12_added_274 : decode cX12_added 274 = .ok (.iaload, 1) := by decide +kernel
theorem dX12_added_275 : decode cX12_added 275 = .ok (.i2l, 1) := by decide +kernel
theorem dX12_added_276 : decode cX12_added 276 = .ok (.goto 4, 3) := by decide +kernel
theorem dX12_added_279 : decode cX12_added 279 = .ok (.lconst 0, 1) := by decide +kernel
theorem dX12_added_280 : decode cX12_added 280 = .ok (.ladd, 1) := by decide +kernel
theorem dX12_added_281 : decode cX12_added 281 = .ok (.lstore_n 2, 1) := by decide +kernel
theorem dX12_added_282 : decode cX12_added 282 = .ok (.iinc 4 1, 3) := by decide +kernel
theorem dX12_added_285 : decode cX12_added 285 = .ok (.goto (-57), 3) := by decide +kernel
theorem dX12_added_288 : decode cX12_added 288 = .ok (.lload_n 2, 1) := by decide +kernel
theorem dX12_added_289 : decode cX12_added 289 = .ok (.lreturn, 1) := by decide +kernel
theorem dX12_capped_0 : decode cX12_capped 0 = .ok (.lload_n 2, 1) := by decide +kernel
theorem dX12_capped_1 : decode cX12_capped 1 = .ok (.lstore 4, 2) := by decide +kernel
theorem dX12_capped_3 : decode cX12_capped 3 = .ok (.iconst 1, 1) := by decide +kernel
theorem dX12_capped_4 : decode cX12_capped 4 = .ok (.istore 6, 2) := by decide +kernel
theorem dX12_capped_6 : decode cX12_capped 6 = .ok (.iload 6, 2) := by decide +kernel
theorem dX12_capped_8 : decode cX12_capped 8 = .ok (.ifCond .lt 131, 3) := by decide +kernel
theorem dX12_capped_11 : decode cX12_capped 11 = .ok (.iconst 0, 1) := by decide +kernel
theorem dX12_capped_12 : decode cX12_capped 12 = .ok (.istore 7, 2) := by decide +kernel
theorem dX12_capped_14 : decode cX12_capped 14 = .ok (.iload 7, 2) := by decide +kernel
theorem dX12_capped_16 : decode cX12_capped 16 = .ok (.aload_n 0, 1) := by decide +kernel
theorem dX12_capped_17 : decode cX12_capped 17 = .ok (.getfield 70, 3) := by decide +kernel
theorem dX12_capped_20 : decode cX12_capped 20 = .ok (.iconst 1, 1) := by decide +kernel
theorem dX12_capped_21 : decode cX12_capped 21 = .ok (.iaload, 1) := by decide +kernel
theorem dX12_capped_22 : decode cX12_capped 22 = .ok (.if_icmp .ge 111, 3) := by decide +kernel
theorem dX12_capped_25 : decode cX12_capped 25 = .ok (.aload_n 0, 1) := by decide +kernel
theorem dX12_capped_26 : decode cX12_capped 26 = .ok (.iload 7, 2) := by decide +kernel
theorem dX12_capped_28 : decode cX12_capped 28 = .ok (.iconst 3, 1) := by decide +kernel
theorem dX12_capped_29 : decode cX12_capped 29 = .ok (.iload_n 1, 1) := by decide +kernel
theorem dX12_capped_30 : decode cX12_capped 30 = .ok (.invokevirtual 237, 3) := by decide +kernel
theorem dX12_capped_33 : decode cX12_capped 33 = .ok (.ifCond .eq 94, 3) := by decide +kernel
theorem dX12_capped_36 : decode cX12_capped 36 = .ok (.aload_n 0, 1) := by decide +kernel
theorem dX12_capped_37 : decode cX12_capped 37 = .ok (.getfield 40, 3) := by decide +kernel
theorem dX12_capped_40 : decode cX12_capped 40 = .ok (.iload 7, 2) := by decide +kernel
theorem dX12_capped_42 : decode cX12_capped 42 = .ok (.iaload, 1) := by decide +kernel
theorem dX12_capped_43 : decode cX12_capped 43 = .ok (.iload 6, 2) := by decide +kernel
theorem dX12_capped_45 : decode cX12_capped 45 = .ok (.if_icmp .eq 6, 3) := by decide +kernel
theorem dX12_capped_48 : decode cX12_capped 48 = .ok (.goto 79, 3) := by decide +kernel
theorem dX12_capped_51 : decode cX12_capped 51 = .ok (.aload_n 0, 1) := by decide +kernel
theorem dX12_capped_52 : decode cX12_capped 52 = .ok (.iload 7, 2) := by decide +kernel
theorem dX12_capped_54 : decode cX12_capped 54 = .ok (.invokevirtual 241, 3) := by decide +kernel
theorem dX12_capped_57 : decode cX12_capped 57 = .ok (.lstore 8, 2) := by decide +kernel
theorem dX12_capped_59 : decode cX12_capped 59 = .ok (.iload 6, 2) := by decide +kernel
theorem dX12_capped_61 : decode cX12_capped 61 = .ok (.iconst 1, 1) := by decide +kernel
theorem dX12_capped_62 : decode cX12_capped 62 = .ok (.if_icmp .ne 19, 3) := by decide +kernel
theorem dX12_capped_65 : decode cX12_capped 65 = .ok (.lload 4, 2) := by decide +kernel
theorem dX12_capped_67 : decode cX12_capped 67 = .ok (.lload 8, 2) := by decide +kernel
theorem dX12_capped_69 : decode cX12_capped 69 = .ok (.lcmp, 1) := by decide +kernel
theorem dX12_capped_70 : decode cX12_capped 70 = .ok (.ifCond .ge 7, 3) := by decide +kernel
theorem dX12_capped_73 : decode cX12_capped 73 = .ok (.iconst 1, 1) := by decide +kernel
theorem dX12_capped_74 : decode cX12_capped 74 = .ok (.goto 20, 3) := by decide +kernel
theorem dX12_capped_77 : decode cX12_capped 77 = .ok (.iconst 0, 1) := by decide +kernel
theorem dX12_capped_78 : decode cX12_capped 78 = .ok (.goto 16, 3) := by decide +kernel
theorem dX12_capped_81 : decode cX12_capped 81 = .ok (.lload 4, 2) := by decide +kernel
theorem dX12_capped_83 : decode cX12_capped 83 = .ok (.lload 8, 2) := by decide +kernel
theorem dX12_capped_85 : decode cX12_capped 85 = .ok (.lcmp, 1) := by decide +kernel
theorem dX12_capped_86 : decode cX12_capped 86 = .ok (.ifCond .le 7, 3) := by decide +kernel
theorem dX12_capped_89 : decode cX12_capped 89 = .ok (.iconst 1, 1) := by decide +kernel
theorem dX12_capped_90 : decode cX12_capped 90 = .ok (.goto 4, 3) := by decide +kernel
theorem dX12_capped_93 : decode cX12_capped 93 = .ok (.iconst 0, 1) := by decide +kernel
theorem dX12_capped_94 : decode cX12_capped 94 = .ok (.istore 10, 2) := by decide +kernel
theorem dX12_capped_96 : decode cX12_capped 96 = .ok (.aload_n 0, 1) := by decide +kernel
theorem dX12_capped_97 : decode cX12_capped 97 = .ok (.getfield 99, 3) := by decide +kernel
theorem dX12_capped_100 : decode cX12_capped 100 = .ok (.iload 7, 2) := by decide +kernel
theorem dX12_capped_102 : decode cX12_capped 102 = .ok (.iload 10, 2) := by decide +kernel
theorem dX12_capped_104 : decode cX12_capped 104 = .ok (.ifCond .eq 7, 3) := by decide +kernel
theorem dX12_capped_107 : decode cX12_capped 107 = .ok (.iconst 2, 1) := by decide +kernel
theorem dX12_capped_108 : decode cX12_capped 108 = .ok (.goto 4, 3) := by decide +kernel
theorem dX12_capped_111 : decode cX12_capped 111 = .ok (.iconst 4, 1) := by decide +kernel
theorem dX12_capped_112 : decode cX12_capped 112 = .ok (.iastore, 1) := by decide +kernel
theorem dX12_capped_113 : decode cX12_capped 113 = .ok (.iload 10, 2) := by decide +kernel
theorem dX12_capped_115 : decode cX12_capped 115 = .ok (.ifCond .eq 8, 3) := by decide +kernel
theorem dX12_capped_118 : decode cX12_capped 118 = .ok (.lload 8, 2) := by decide +kernel
theorem dX12_capped_120 : decode cX12_capped 120 = .ok (.goto 5, 3) := by decide +kernel
theorem dX12_capped_123 : decode cX12_capped 123 = .ok (.lload 4, 2) := by decide +kernel
theorem dX12_capped_125 : decode cX12_capped 125 = .ok (.lstore 4, 2) := by decide +kernel
theorem dX12_capped_127 : decode cX12_capped 127 = .ok (.iinc 7 1, 3) := by decide +kernel
theorem dX12_capped_130 : decode cX12_capped 130 = .ok (.goto (-116), 3) := by decide +kernel
theorem dX12_capped_133 : decode cX12_capped 133 = .ok (.iinc 6 (-1), 3) := by decide +kernel
theorem dX12_capped_136 : decode cX12_capped 136 = .ok (.goto (-130), 3) := by decide +kernel
theorem dX12_capped_139 : decode cX12_capped 139 = .ok (.lload 4, 2) := by decide +kernel
theorem dX12_capped_141 : decode cX12_capped 141 = .ok (.lreturn, 1) := by decide +kernel
theorem dX12_work_0 : decode cX12_work 0 = .ok (.iconst 0, 1) := by decide +kernel
theorem dX12_work_1 : decode cX12_work 1 = .ok (.istore_n 2, 1) := by decide +kernel
theorem dX12_work_2 : decode cX12_work 2 = .ok (.iload_n 2, 1) := by decide +kernel
theorem dX12_work_3 : decode cX12_work 3 = .ok (.aload_n 0, 1) := by decide +kernel
theorem dX12_work_4 : decode cX12_work 4 = .ok (.getfield 70, 3) := by decide +kernel
theorem dX12_work_7 : decode cX12_work 7 = .ok (.iconst 1, 1) := by decide +kernel
theorem dX12_work_8 : decode cX12_work 8 = .ok (.iaload, 1) := by decide +kernel
theorem dX12_work_9 : decode cX12_work 9 = .ok (.if_icmp .ge 58, 3) := by decide +kernel
theorem dX12_work_12 : decode cX12_work 12 = .ok (.aload_n 0, 1) := by decide +kernel
theorem dX12_work_13 : decode cX12_work 13 = .ok (.getfield 25, 3) := by decide +kernel
theorem dX12_work_16 : decode cX12_work 16 = .ok (.iload_n 2, 1) := by decide +kernel
theorem dX12_work_17 : decode cX12_work 17 = .ok (.iaload, 1) := by decide +kernel
theorem dX12_work_18 : decode cX12_work 18 = .ok (.iconst 3, 1) := by decide +kernel
theorem dX12_work_19 : decode cX12_work 19 = .ok (.if_icmp .gt 42, 3) := by decide +kernel
theorem dX12_work_22 : decode cX12_work 22 = .ok (.aload_n 0, 1) := by decide +kernel
theorem dX12_work_23 : decode cX12_work 23 = .ok (.getfield 28, 3) := by decide +kernel
theorem dX12_work_26 : decode cX12_work 26 = .ok (.iload_n 2, 1) := by decide +kernel
theorem dX12_work_27 : decode cX12_work 27 = .ok (.iaload, 1) := by decide +kernel
theorem dX12_work_28 : decode cX12_work 28 = .ok (.iload_n 1, 1) := by decide +kernel
theorem dX12_work_29 : decode cX12_work 29 = .ok (.if_icmp .eq 6, 3) := by decide +kernel
theorem dX12_work_32 : decode cX12_work 32 = .ok (.goto 29, 3) := by decide +kernel
theorem dX12_work_35 : decode cX12_work 35 = .ok (.aload_n 0, 1) := by decide +kernel
theorem dX12_work_36 : decode cX12_work 36 = .ok (.getfield 99, 3) := by decide +kernel
theorem dX12_work_39 : decode cX12_work 39 = .ok (.iload_n 2, 1) := by decide +kernel
theorem dX12_work_40 : decode cX12_work 40 = .ok (.aload_n 0, 1) := by decide +kernel
theorem dX12_work_41 : decode cX12_work 41 = .ok (.iload_n 2, 1) := by decide +kernel
theorem dX12_work_42 : decode cX12_work 42 = .ok (.invokevirtual 231, 3) := by decide +kernel
theorem dX12_work_45 : decode cX12_work 45 = .ok (.ifCond .eq 7, 3) := by decide +kernel
theorem dX12_work_48 : decode cX12_work 48 = .ok (.iconst 1, 1) := by decide +kernel
theorem dX12_work_49 : decode cX12_work 49 = .ok (.goto 4, 3) := by decide +kernel
theorem dX12_work_52 : decode cX12_work 52 = .ok (.iconst 0, 1) := by decide +kernel
theorem dX12_work_53 : decode cX12_work 53 = .ok (.iastore, 1) := by decide +kernel
theorem dX12_work_54 : decode cX12_work 54 = .ok (.aload_n 0, 1) := by decide +kernel
theorem dX12_work_55 : decode cX12_work 55 = .ok (.getfield 102, 3) := by decide +kernel
theorem dX12_work_58 : decode cX12_work 58 = .ok (.iload_n 2, 1) := by decide +kernel
theorem dX12_work_59 : decode cX12_work 59 = .ok (.iconst (-1), 1) := by decide +kernel
theorem dX12_work_60 : decode cX12_work 60 = .ok (.iastore, 1) := by decide +kernel
theorem dX12_work_61 : decode cX12_work 61 = .ok (.iinc 2 1, 3) := by decide +kernel
theorem dX12_work_64 : decode cX12_work 64 = .ok (.goto (-62), 3) := by decide +kernel
theorem dX12_work_67 : decode cX12_work 67 = .ok (.aload_n 0, 1) := by decide +kernel
theorem dX12_work_68 : decode cX12_work 68 = .ok (.iload_n 1, 1) := by decide +kernel
theorem dX12_work_69 : decode cX12_work 69 = .ok (.invokevirtual 258, 3) := by decide +kernel
theorem dX12_work_72 : decode cX12_work 72 = .ok (.lstore_n 2, 1) := by decide +kernel
theorem dX12_work_73 : decode cX12_work 73 = .ok (.lload_n 2, 1) := by decide +kernel
theorem dX12_work_74 : decode cX12_work 74 = .ok (.aload_n 0, 1) := by decide +kernel
theorem dX12_work_75 : decode cX12_work 75 = .ok (.iload_n 1, 1) := by decide +kernel
theorem dX12_work_76 : decode cX12_work 76 = .ok (.invokevirtual 261, 3) := by decide +kernel
theorem dX12_work_79 : decode cX12_work 79 = .ok (.ladd, 1) := by decide +kernel
theorem dX12_work_80 : decode cX12_work 80 = .ok (.lstore_n 2, 1) := by decide +kernel
theorem dX12_work_81 : decode cX12_work 81 = .ok (.aload_n 0, 1) := by decide +kernel
theorem dX12_work_82 : decode cX12_work 82 = .ok (.iload_n 1, 1) := by decide +kernel
theorem dX12_work_83 : decode cX12_work 83 = .ok (.lload_n 2, 1) := by decide +kernel
theorem dX12_work_84 : decode cX12_work 84 = .ok (.invokevirtual 264, 3) := by decide +kernel
theorem dX12_work_87 : decode cX12_work 87 = .ok (.lstore_n 2, 1) := by decide +kernel
theorem dX12_work_88 : decode cX12_work 88 = .ok (.aload_n 0, 1) := by decide +kernel
theorem dX12_work_89 : decode cX12_work 89 = .ok (.getfield 7, 3) := by decide +kernel
theorem dX12_work_92 : decode cX12_work 92 = .ok (.iload_n 1, 1) := by decide +kernel
theorem dX12_work_93 : decode cX12_work 93 = .ok (.iaload, 1) := by decide +kernel
theorem dX12_work_94 : decode cX12_work 94 = .ok (.iconst 2, 1) := by decide +kernel
theorem dX12_work_95 : decode cX12_work 95 = .ok (.if_icmp .ne 13, 3) := by decide +kernel
theorem dX12_work_98 : decode cX12_work 98 = .ok (.lload_n 2, 1) := by decide +kernel
theorem dX12_work_99 : decode cX12_work 99 = .ok (.aload_n 0, 1) := by decide +kernel
theorem dX12_work_100 : decode cX12_work 100 = .ok (.getfield 22, 3) := by decide +kernel
theorem dX12_work_103 : decode cX12_work 103 = .ok (.iload_n 1, 1) := by decide +kernel
theorem dX12_work_104 : decode cX12_work 104 = .ok (.iaload, 1) := by decide +kernel
theorem dX12_work_105 : decode cX12_work 105 = .ok (.i2l, 1) := by decide +kernel
theorem dX12_work_106 : decode cX12_work 106 = .ok (.lsub, 1) := by decide +kernel
theorem dX12_work_107 : decode cX12_work 107 = .ok (.lstore_n 2, 1) := by decide +kernel
theorem dX12_work_108 : decode cX12_work 108 = .ok (.aload_n 0, 1) := by decide +kernel
theorem dX12_work_109 : decode cX12_work 109 = .ok (.getfield 7, 3) := by decide +kernel
theorem dX12_work_112 : decode cX12_work 112 = .ok (.iload_n 1, 1) := by decide +kernel
theorem dX12_work_113 : decode cX12_work 113 = .ok (.iaload, 1) := by decide +kernel
theorem dX12_work_114 : decode cX12_work 114 = .ok (.iconst 4, 1) := by decide +kernel
theorem dX12_work_115 : decode cX12_work 115 = .ok (.if_icmp .ne 15, 3) := by decide +kernel
theorem dX12_work_118 : decode cX12_work 118 = .ok (.lload_n 2, 1) := by decide +kernel
theorem dX12_work_119 : decode cX12_work 119 = .ok (.lconst 0, 1) := by decide +kernel
theorem dX12_work_120 : decode cX12_work 120 = .ok (.lcmp, 1) := by decide +kernel
theorem dX12_work_121 : decode cX12_work 121 = .ok (.ifCond .eq 7, 3) := by decide +kernel
theorem dX12_work_124 : decode cX12_work 124 = .ok (.lconst 1, 1) := by decide +kernel
theorem dX12_work_125 : decode cX12_work 125 = .ok (.goto 4, 3) := by decide +kernel
theorem dX12_work_128 : decode cX12_work 128 = .ok (.lconst 0, 1) := by decide +kernel
theorem dX12_work_129 : decode cX12_work 129 = .ok (.lstore_n 2, 1) := by decide +kernel
theorem dX12_work_130 : decode cX12_work 130 = .ok (.aload_n 0, 1) := by decide +kernel
theorem dX12_work_131 : decode cX12_work 131 = .ok (.getfield 85, 3) := by decide +kernel
theorem dX12_work_134 : decode cX12_work 134 = .ok (.bipush 10, 2) := by decide +kernel
theorem dX12_work_136 : decode cX12_work 136 = .ok (.aload_n 0, 1) := by decide +kernel
theorem dX12_work_137 : decode cX12_work 137 = .ok (.getfield 228, 3) := by decide +kernel
theorem dX12_work_140 : decode cX12_work 140 = .ok (.imul, 1) := by decide +kernel
theorem dX12_work_141 : decode cX12_work 141 = .ok (.iload_n 1, 1) := by decide +kernel
theorem dX12_work_142 : decode cX12_work 142 = .ok (.iadd, 1) := by decide +kernel
theorem dX12_work_143 : decode cX12_work 143 = .ok (.lload_n 2, 1) := by decide +kernel
theorem dX12_work_144 : decode cX12_work 144 = .ok (.lastore, 1) := by decide +kernel
theorem dX12_work_145 : decode cX12_work 145 = .ok (.return_, 1) := by decide +kernel
theorem dX12_lays_0 : decode cX12_lays 0 = .ok (.aload_n 0, 1) := by decide +kernel
theorem dX12_lays_1 : decode cX12_lays 1 = .ok (.iload_n 1, 1) := by decide +kernel
theorem dX12_lays_2 : decode cX12_lays 2 = .ok (.putfield 228, 3) := by decide +kernel
theorem dX12_lays_5 : decode cX12_lays 5 = .ok (.aload_n 0, 1) := by decide +kernel
theorem dX12_lays_6 : decode cX12_lays 6 = .ok (.invokevirtual 268, 3) := by decide +kernel
theorem dX12_lays_9 : decode cX12_lays 9 = .ok (.aload_n 0, 1) := by decide +kernel
theorem dX12_lays_10 : decode cX12_lays 10 = .ok (.iconst 0, 1) := by decide +kernel
theorem dX12_lays_11 : decode cX12_lays 11 = .ok (.putfield 271, 3) := by decide +kernel
theorem dX12_lays_14 : decode cX12_lays 14 = .ok (.iconst 0, 1) := by decide +kernel
theorem dX12_lays_15 : decode cX12_lays 15 = .ok (.istore_n 2, 1) := by decide +kernel
theorem dX12_lays_16 : decode cX12_lays 16 = .ok (.iload_n 2, 1) := by decide +kernel
theorem dX12_lays_17 : decode cX12_lays 17 = .ok (.aload_n 0, 1) := by decide +kernel
theorem dX12_lays_18 : decode cX12_lays 18 = .ok (.getfield 70, 3) := by decide +kernel
theorem dX12_lays_21 : decode cX12_lays 21 = .ok (.iconst 0, 1) := by decide +kernel
theorem dX12_lays_22 : decode cX12_lays 22 = .ok (.iaload, 1) := by decide +kernel
theorem dX12_lays_23 : decode cX12_lays 23 = .ok (.if_icmp .ge 62, 3) := by decide +kernel
theorem dX12_lays_26 : decode cX12_lays 26 = .ok (.iconst 0, 1) := by decide +kernel
theorem dX12_lays_27 : decode cX12_lays 27 = .ok (.istore_n 3, 1) := by decide +kernel
theorem dX12_lays_28 : decode cX12_lays 28 = .ok (.aload_n 0, 1) := by decide +kernel
theorem dX12_lays_29 : decode cX12_lays 29 = .ok (.getfield 271, 3) := by decide +kernel
theorem dX12_lays_32 : decode cX12_lays 32 = .ok (.iload_n 3, 1) := by decide +kernel
theorem dX12_lays_33 : decode cX12_lays 33 = .ok (.ishr, 1) := by decide +kernel
theorem dX12_lays_34 : decode cX12_lays 34 = .ok (.iconst 1, 1) := by decide +kernel
theorem dX12_lays_35 : decode cX12_lays 35 = .ok (.iand, 1) := by decide +kernel
theorem dX12_lays_36 : decode cX12_lays 36 = .ok (.iconst 1, 1) := by decide +kernel
theorem dX12_lays_37 : decode cX12_lays 37 = .ok (.if_icmp .eq 19, 3) := by decide +kernel
theorem dX12_lays_40 : decode cX12_lays 40 = .ok (.aload_n 0, 1) := by decide +kernel
theorem dX12_lays_41 : decode cX12_lays 41 = .ok (.getfield 76, 3) := by decide +kernel
theorem dX12_lays_44 : decode cX12_lays 44 = .ok (.iload_n 3, 1) := by decide +kernel
theorem dX12_lays_45 : decode cX12_lays 45 = .ok (.iaload, 1) := by decide +kernel
theorem dX12_lays_46 : decode cX12_lays 46 = .ok (.aload_n 0, 1) := by decide +kernel
theorem dX12_lays_47 : decode cX12_lays 47 = .ok (.getfield 271, 3) := by decide +kernel
theorem dX12_lays_50 : decode cX12_lays 50 = .ok (.iconst (-1), 1) := by decide +kernel
theorem dX12_lays_51 : decode cX12_lays 51 = .ok (.ixor, 1) := by decide +kernel
theorem dX12_lays_52 : decode cX12_lays 52 = .ok (.iand, 1) := by decide +kernel
theorem dX12_lays_53 : decode cX12_lays 53 = .ok (.ifCond .eq 9, 3) := by decide +kernel
theorem dX12_lays_56 : decode cX12_lays 56 = .ok (.iinc 3 1, 3) := by decide +kernel
theorem dX12_lays_59 : decode cX12_lays 59 = .ok (.goto (-31), 3) := by decide +kernel
theorem dX12_lays_62 : decode cX12_lays 62 = .ok (.aload_n 0, 1) := by decide +kernel
theorem dX12_lays_63 : decode cX12_lays 63 = .ok (.iload_n 3, 1) := by decide +kernel
theorem dX12_lays_64 : decode cX12_lays 64 = .ok (.invokevirtual 274, 3) := by decide +kernel
theorem dX12_lays_67 : decode cX12_lays 67 = .ok (.aload_n 0, 1) := by decide +kernel
theorem dX12_lays_68 : decode cX12_lays 68 = .ok (.dup, 1) := by decide +kernel
theorem dX12_lays_69 : decode cX12_lays 69 = .ok (.getfield 271, 3) := by decide +kernel
theorem dX12_lays_72 : decode cX12_lays 72 = .ok (.iconst 1, 1) := by decide +kernel
theorem dX12_lays_73 : decode cX12_lays 73 = .ok (.iload_n 3, 1) := by decide +kernel
theorem dX12_lays_74 : decode cX12_lays 74 = .ok (.ishl, 1) := by decide +kernel
theorem dX12_lays_75 : decode cX12_lays 75 = .ok (.ior, 1) := by decide +kernel
theorem dX12_lays_76 : decode cX12_lays 76 = .ok (.putfield 271, 3) := by decide +kernel
theorem dX12_lays_79 : decode cX12_lays 79 = .ok (.iinc 2 1, 3) := by decide +kernel
theorem dX12_lays_82 : decode cX12_lays 82 = .ok (.goto (-66), 3) := by decide +kernel
theorem dX12_lays_85 : decode cX12_lays 85 = .ok (.aload_n 0, 1) := by decide +kernel
theorem dX12_lays_86 : decode cX12_lays 86 = .ok (.getfield 92, 3) := by decide +kernel
theorem dX12_lays_89 : decode cX12_lays 89 = .ok (.iload_n 1, 1) := by decide +kernel
theorem dX12_lays_90 : decode cX12_lays 90 = .ok (.iconst 0, 1) := by decide +kernel
theorem dX12_lays_91 : decode cX12_lays 91 = .ok (.iastore, 1) := by decide +kernel
theorem dX12_lays_92 : decode cX12_lays 92 = .ok (.iconst 0, 1) := by decide +kernel
theorem dX12_lays_93 : decode cX12_lays 93 = .ok (.istore_n 2, 1) := by decide +kernel
theorem dX12_lays_94 : decode cX12_lays 94 = .ok (.iload_n 2, 1) := by decide +kernel
theorem dX12_lays_95 : decode cX12_lays 95 = .ok (.bipush 8, 2) := by decide +kernel
theorem dX12_lays_97 : decode cX12_lays 97 = .ok (.if_icmp .ge 33, 3) := by decide +kernel
theorem dX12_lays_100 : decode cX12_lays 100 = .ok (.aload_n 0, 1) := by decide +kernel
theorem dX12_lays_101 : decode cX12_lays 101 = .ok (.getfield 92, 3) := by decide +kernel
theorem dX12_lays_104 : decode cX12_lays 104 = .ok (.iload_n 1, 1) := by decide +kernel
theorem dX12_lays_105 : decode cX12_lays 105 = .ok (.dup2, 1) := by decide +kernel
theorem dX12_lays_106 : decode cX12_lays 106 = .ok (.iaload, 1) := by decide +kernel
theorem dX12_lays_107 : decode cX12_lays 107 = .ok (.aload_n 0, 1) := by decide +kernel
theorem dX12_lays_108 : decode cX12_lays 108 = .ok (.iload_n 2, 1) := by decide +kernel
theorem dX12_lays_109 : decode cX12_lays 109 = .ok (.invokevirtual 278, 3) := by decide +kernel
theorem dX12_lays_112 : decode cX12_lays 112 = .ok (.ifCond .eq 9, 3) := by decide +kernel
theorem dX12_lays_115 : decode cX12_lays 115 = .ok (.iconst 1, 1) := by decide +kernel
theorem dX12_lays_116 : decode cX12_lays 116 = .ok (.iload_n 2, 1) := by decide +kernel
theorem dX12_lays_117 : decode cX12_lays 117 = .ok (.ishl, 1) := by decide +kernel
theorem dX12_lays_118 : decode cX12_lays 118 = .ok (.goto 4, 3) := by decide +kernel
theorem dX12_lays_121 : decode cX12_lays 121 = .ok (.iconst 0, 1) := by decide +kernel
theorem dX12_lays_122 : decode cX12_lays 122 = .ok (.ior, 1) := by decide +kernel
theorem dX12_lays_123 : decode cX12_lays 123 = .ok (.iastore, 1) := by decide +kernel
theorem dX12_lays_124 : decode cX12_lays 124 = .ok (.iinc 2 1, 3) := by decide +kernel
theorem dX12_lays_127 : decode cX12_lays 127 = .ok (.goto (-33), 3) := by decide +kernel
theorem dX12_lays_130 : decode cX12_lays 130 = .ok (.return_, 1) := by decide +kernel
theorem dX12_opens_0 : decode cX12_opens 0 = .ok (.aload_n 0, 1) := by decide +kernel
theorem dX12_opens_1 : decode cX12_opens 1 = .ok (.getfield 70, 3) := by decide +kernel
theorem dX12_opens_4 : decode cX12_opens 4 = .ok (.iconst 4, 1) := by decide +kernel
theorem dX12_opens_5 : decode cX12_opens 5 = .ok (.iaload, 1) := by decide +kernel
theorem dX12_opens_6 : decode cX12_opens 6 = .ok (.iload_n 1, 1) := by decide +kernel
theorem dX12_opens_7 : decode cX12_opens 7 = .ok (.ishr, 1) := by decide +kernel
theorem dX12_opens_8 : decode cX12_opens 8 = .ok (.iconst 1, 1) := by decide +kernel
theorem dX12_opens_9 : decode cX12_opens 9 = .ok (.iand, 1) := by decide +kernel
theorem dX12_opens_10 : decode cX12_opens 10 = .ok (.iconst 1, 1) := by decide +kernel
theorem dX12_opens_11 : decode cX12_opens 11 = .ok (.if_icmp .ne 7, 3) := by decide +kernel
theorem dX12_opens_14 : decode cX12_opens 14 = .ok (.iconst 1, 1) := by decide +kernel
theorem dX12_opens_15 : decode cX12_opens 15 = .ok (.goto 4, 3) := by decide +kernel
theorem dX12_opens_18 : decode cX12_opens 18 = .ok (.iconst 0, 1) := by decide +kernel
theorem dX12_opens_19 : decode cX12_opens 19 = .ok (.istore_n 2, 1) := by decide +kernel
theorem dX12_opens_20 : decode cX12_opens 20 = .ok (.iconst 0, 1) := by decide +kernel
theorem dX12_opens_21 : decode cX12_opens 21 = .ok (.istore_n 3, 1) := by decide +kernel
theorem dX12_opens_22 : decode cX12_opens 22 = .ok (.iconst 0, 1) := by decide +kernel
theorem dX12_opens_23 : decode cX12_opens 23 = .ok (.istore 4, 2) := by decide +kernel
theorem dX12_opens_25 : decode cX12_opens 25 = .ok (.iload 4, 2) := by decide +kernel
theorem dX12_opens_27 : decode cX12_opens 27 = .ok (.aload_n 0, 1) := by decide +kernel
theorem dX12_opens_28 : decode cX12_opens 28 = .ok (.getfield 70, 3) := by decide +kernel
theorem dX12_opens_31 : decode cX12_opens 31 = .ok (.iconst 1, 1) := by decide +kernel
theorem dX12_opens_32 : decode cX12_opens 32 = .ok (.iaload, 1) := by decide +kernel
theorem dX12_opens_33 : decode cX12_opens 33 = .ok (.if_icmp .ge 52, 3) := by decide +kernel
theorem dX12_opens_36 : decode cX12_opens 36 = .ok (.iload_n 2, 1) := by decide +kernel
theorem dX12_opens_37 : decode cX12_opens 37 = .ok (.ifCond .ne 14, 3) := by decide +kernel
theorem dX12_opens_40 : decode cX12_opens 40 = .ok (.aload_n 0, 1) := by decide +kernel
theorem dX12_opens_41 : decode cX12_opens 41 = .ok (.iload 4, 2) := by decide +kernel
theorem dX12_opens_43 : decode cX12_opens 43 = .ok (.iconst 5, 1) := by decide +kernel
theorem dX12_opens_44 : decode cX12_opens 44 = .ok (.iload_n 1, 1) := by decide +kernel
theorem dX12_opens_45 : decode cX12_opens 45 = .ok (.invokevirtual 237, 3) := by decide +kernel
theorem dX12_opens_48 : decode cX12_opens 48 = .ok (.ifCond .eq 7, 3) := by decide +kernel
theorem dX12_opens_51 : decode cX12_opens 51 = .ok (.iconst 1, 1) := by decide +kernel
theorem dX12_opens_52 : decode cX12_opens 52 = .ok (.goto 4, 3) := by decide +kernel
theorem dX12_opens_55 : decode cX12_opens 55 = .ok (.iconst 0, 1) := by decide +kernel
theorem dX12_opens_56 : decode cX12_opens 56 = .ok (.istore_n 2, 1) := by decide +kernel
theorem dX12_opens_57 : decode cX12_opens 57 = .ok (.iload_n 3, 1) := by decide +kernel
theorem dX12_opens_58 : decode cX12_opens 58 = .ok (.ifCond .ne 15, 3) := by decide +kernel
theorem dX12_opens_61 : decode cX12_opens 61 = .ok (.aload_n 0, 1) := by decide +kernel
theorem dX12_opens_62 : decode cX12_opens 62 = .ok (.iload 4, 2) := by decide +kernel
theorem dX12_opens_64 : decode cX12_opens 64 = .ok (.bipush 6, 2) := by decide +kernel
theorem dX12_opens_66 : decode cX12_opens 66 = .ok (.iload_n 1, 1) := by decide +kernel
theorem dX12_opens_67 : decode cX12_opens 67 = .ok (.invokevirtual 237, 3) := by decide +kernel
theorem dX12_opens_70 : decode cX12_opens 70 = .ok (.ifCond .eq 7, 3) := by decide +kernel
theorem dX12_opens_73 : decode cX12_opens 73 = .ok (.iconst 1, 1) := by decide +kernel
theorem dX12_opens_74 : decode cX12_opens 74 = .ok (.goto 4, 3) := by decide +kernel
theorem dX12_opens_77 : decode cX12_opens 77 = .ok (.iconst 0, 1) := by decide +kernel
theorem dX12_opens_78 : decode cX12_opens 78 = .ok (.istore_n 3, 1) := by decide +kernel
theorem dX12_opens_79 : decode cX12_opens 79 = .ok (.iinc 4 1, 3) := by decide +kernel
theorem dX12_opens_82 : decode cX12_opens 82 = .ok (.goto (-57), 3) := by decide +kernel
theorem dX12_opens_85 : decode cX12_opens 85 = .ok (.iload_n 2, 1) := by decide +kernel
theorem dX12_opens_86 : decode cX12_opens 86 = .ok (.ifCond .eq 11, 3) := by decide +kernel
theorem dX12_opens_89 : decode cX12_opens 89 = .ok (.iload_n 3, 1) := by decide +kernel
theorem dX12_opens_90 : decode cX12_opens 90 = .ok (.ifCond .ne 7, 3) := by decide +kernel
theorem dX12_opens_93 : decode cX12_opens 93 = .ok (.iconst 1, 1) := by decide +kernel
theorem dX12_opens_94 : decode cX12_opens 94 = .ok (.goto 4, 3) := by decide +kernel
theorem dX12_opens_97 : decode cX12_opens 97 = .ok (.iconst 0, 1) := by decide +kernel
theorem dX12_opens_98 : decode cX12_opens 98 = .ok (.ireturn, 1) := by decide +kernel
theorem dX12_lay_0 : decode cX12_lay 0 = .ok (.aload_n 0, 1) := by decide +kernel
theorem dX12_lay_1 : decode cX12_lay 1 = .ok (.getfield 153, 3) := by decide +kernel
theorem dX12_lay_4 : decode cX12_lay 4 = .ok (.ifCond .eq 4, 3) := by decide +kernel
theorem dX12_lay_7 : decode cX12_lay 7 = .ok (.return_, 1) := by decide +kernel
theorem dX12_lay_8 : decode cX12_lay 8 = .ok (.aload_n 0, 1) := by decide +kernel
theorem dX12_lay_9 : decode cX12_lay 9 = .ok (.iconst 1, 1) := by decide +kernel
theorem dX12_lay_10 : decode cX12_lay 10 = .ok (.putfield 153, 3) := by decide +kernel
theorem dX12_lay_13 : decode cX12_lay 13 = .ok (.aload_n 0, 1) := by decide +kernel
theorem dX12_lay_14 : decode cX12_lay 14 = .ok (.invokevirtual 197, 3) := by decide +kernel
theorem dX12_lay_17 : decode cX12_lay 17 = .ok (.iconst 0, 1) := by decide +kernel
theorem dX12_lay_18 : decode cX12_lay 18 = .ok (.istore_n 1, 1) := by decide +kernel
theorem dX12_lay_19 : decode cX12_lay 19 = .ok (.iload_n 1, 1) := by decide +kernel
theorem dX12_lay_20 : decode cX12_lay 20 = .ok (.sipush 256, 3) := by decide +kernel
theorem dX12_lay_23 : decode cX12_lay 23 = .ok (.if_icmp .ge 14, 3) := by decide +kernel
theorem dX12_lay_26 : decode cX12_lay 26 = .ok (.aload_n 0, 1) := by decide +kernel
theorem dX12_lay_27 : decode cX12_lay 27 = .ok (.iload_n 1, 1) := by decide +kernel
theorem dX12_lay_28 : decode cX12_lay 28 = .ok (.invokevirtual 281, 3) := by decide +kernel
theorem dX12_lay_31 : decode cX12_lay 31 = .ok (.iinc 1 1, 3) := by decide +kernel
theorem dX12_lay_34 : decode cX12_lay 34 = .ok (.goto (-15), 3) := by decide +kernel
theorem dX12_lay_37 : decode cX12_lay 37 = .ok (.iconst 0, 1) := by decide +kernel
theorem dX12_lay_38 : decode cX12_lay 38 = .ok (.istore_n 1, 1) := by decide +kernel
theorem dX12_lay_39 : decode cX12_lay 39 = .ok (.iload_n 1, 1) := by decide +kernel
theorem dX12_lay_40 : decode cX12_lay 40 = .ok (.sipush 256, 3) := by decide +kernel
theorem dX12_lay_43 : decode cX12_lay 43 = .ok (.if_icmp .ge 79, 3) := by decide +kernel
theorem dX12_lay_46 : decode cX12_lay 46 = .ok (.aload_n 0, 1) := by decide +kernel
theorem dX12_lay_47 : decode cX12_lay 47 = .ok (.getfield 95, 3) := by decide +kernel
theorem dX12_lay_50 : decode cX12_lay 50 = .ok (.iload_n 1, 1) := by decide +kernel
theorem dX12_lay_51 : decode cX12_lay 51 = .ok (.iconst 1, 1) := by decide +kernel
theorem dX12_lay_52 : decode cX12_lay 52 = .ok (.bastore, 1) := by decide +kernel
theorem dX12_lay_53 : decode cX12_lay 53 = .ok (.iconst 0, 1) := by decide +kernel
theorem dX12_lay_54 : decode cX12_lay 54 = .ok (.istore_n 2, 1) := by decide +kernel
theorem dX12_lay_55 : decode cX12_lay 55 = .ok (.iload_n 2, 1) := by decide +kernel
theorem dX12_lay_56 : decode cX12_lay 56 = .ok (.bipush 8, 2) := by decide +kernel
theorem dX12_lay_58 : decode cX12_lay 58 = .ok (.if_icmp .ge 58, 3) := by decide +kernel
theorem dX12_lay_61 : decode cX12_lay 61 = .ok (.iload_n 1, 1) := by decide +kernel
theorem dX12_lay_62 : decode cX12_lay 62 = .ok (.iload_n 2, 1) := by decide +kernel
theorem dX12_lay_63 : decode cX12_lay 63 = .ok (.ishr, 1) := by decide +kernel
theorem dX12_lay_64 : decode cX12_lay 64 = .ok (.iconst 1, 1) := by decide +kernel
theorem dX12_lay_65 : decode cX12_lay 65 = .ok (.iand, 1) := by decide +kernel
theorem dX12_lay_66 : decode cX12_lay 66 = .ok (.iconst 1, 1) := by decide +kernel
theorem dX12_lay_67 : decode cX12_lay 67 = .ok (.if_icmp .ne 43, 3) := by decide +kernel
theorem dX12_lay_70 : decode cX12_lay 70 = .ok (.aload_n 0, 1) := by decide +kernel
theorem dX12_lay_71 : decode cX12_lay 71 = .ok (.getfield 95, 3) := by decide +kernel
theorem dX12_lay_74 : decode cX12_lay 74 = .ok (.iload_n 1, 1) := by decide +kernel
theorem dX12_lay_75 : decode cX12_lay 75 = .ok (.aload_n 0, 1) := by decide +kernel
theorem dX12_lay_76 : decode cX12_lay 76 = .ok (.getfield 95, 3) := by decide +kernel
theorem dX12_lay_79 : decode cX12_lay 79 = .ok (.iload_n 1, 1) := by decide +kernel
theorem dX12_lay_80 : decode cX12_lay 80 = .ok (.baload, 1) := by decide +kernel
theorem dX12_lay_81 : decode cX12_lay 81 = .ok (.ifCond .eq 27, 3) := by decide +kernel
theorem dX12_lay_84 : decode cX12_lay 84 = .ok (.aload_n 0, 1) := by decide +kernel
theorem dX12_lay_85 : decode cX12_lay 85 = .ok (.getfield 92, 3) := by decide +kernel
theorem dX12_lay_88 : decode cX12_lay 88 = .ok (.iload_n 1, 1) := by decide +kernel
theorem dX12_lay_89 : decode cX12_lay 89 = .ok (.iconst 1, 1) := by decide +kernel
theorem dX12_lay_90 : decode cX12_lay 90 = .ok (.iload_n 2, 1) := by decide +kernel
theorem dX12_lay_91 : decode cX12_lay 91 = .ok (.ishl, 1) := by decide +kernel
theorem dX12_lay_92 : decode cX12_lay 92 = .ok (.iconst (-1), 1) := by decide +kernel
theorem dX12_lay_93 : decode cX12_lay 93 = .ok (.ixor, 1) := by decide +kernel
theorem dX12_lay_94 : decode cX12_lay 94 = .ok (.iand, 1) := by decide +kernel
theorem dX12_lay_95 : decode cX12_lay 95 = .ok (.iaload, 1) := by decide +kernel
theorem dX12_lay_96 : decode cX12_lay 96 = .ok (.iload_n 2, 1) := by decide +kernel
theorem dX12_lay_97 : decode cX12_lay 97 = .ok (.ishr, 1) := by decide +kernel
theorem dX12_lay_98 : decode cX12_lay 98 = .ok (.iconst 1, 1) := by decide +kernel
theorem dX12_lay_99 : decode cX12_lay 99 = .ok (.iand, 1) := by decide +kernel
theorem dX12_lay_100 : decode cX12_lay 100 = .ok (.iconst 1, 1) := by decide +kernel
theorem dX12_lay_101 : decode cX12_lay 101 = .ok (.if_icmp .ne 7, 3) := by decide +kernel
theorem dX12_lay_104 : decode cX12_lay 104 = .ok (.iconst 1, 1) := by decide +kernel
theorem dX12_lay_105 : decode cX12_lay 105 = .ok (.goto 4, 3) := by decide +kernel
theorem dX12_lay_108 : decode cX12_lay 108 = .ok (.iconst 0, 1) := by decide +kernel
theorem dX12_lay_109 : decode cX12_lay 109 = .ok (.bastore, 1) := by decide +kernel
theorem dX12_lay_110 : decode cX12_lay 110 = .ok (.iinc 2 1, 3) := by decide +kernel
theorem dX12_lay_113 : decode cX12_lay 113 = .ok (.goto (-58), 3) := by decide +kernel
theorem dX12_lay_116 : decode cX12_lay 116 = .ok (.iinc 1 1, 3) := by decide +kernel
theorem dX12_lay_119 : decode cX12_lay 119 = .ok (.goto (-80), 3) := by decide +kernel
theorem dX12_lay_122 : decode cX12_lay 122 = .ok (.return_, 1) := by decide +kernel
theorem dX12_layNow_0 : decode cX12_layNow 0 = .ok (.aload_n 0, 1) := by decide +kernel
theorem dX12_layNow_1 : decode cX12_layNow 1 = .ok (.invokevirtual 208, 3) := by decide +kernel
theorem dX12_layNow_4 : decode cX12_layNow 4 = .ok (.aload_n 0, 1) := by decide +kernel
theorem dX12_layNow_5 : decode cX12_layNow 5 = .ok (.invokevirtual 197, 3) := by decide +kernel
theorem dX12_layNow_8 : decode cX12_layNow 8 = .ok (.aload_n 0, 1) := by decide +kernel
theorem dX12_layNow_9 : decode cX12_layNow 9 = .ok (.aload_n 0, 1) := by decide +kernel
theorem dX12_layNow_10 : decode cX12_layNow 10 = .ok (.getfield 70, 3) := by decide +kernel
theorem dX12_layNow_13 : decode cX12_layNow 13 = .ok (.iconst 3, 1) := by decide +kernel
theorem dX12_layNow_14 : decode cX12_layNow 14 = .ok (.iaload, 1) := by decide +kernel
theorem dX12_layNow_15 : decode cX12_layNow 15 = .ok (.invokevirtual 281, 3) := by decide +kernel
theorem dX12_layNow_18 : decode cX12_layNow 18 = .ok (.return_, 1) := by decide +kernel
theorem dX12_valueTold_0 : decode cX12_valueTold 0 = .ok (.aload_n 0, 1) := by decide +kernel
theorem dX12_valueTold_1 : decode cX12_valueTold 1 = .ok (.iload_n 1, 1) := by decide +kernel
theorem dX12_valueTold_2 : decode cX12_valueTold 2 = .ok (.invokevirtual 170, 3) := by decide +kernel
theorem dX12_valueTold_5 : decode cX12_valueTold 5 = .ok (.ifCond .eq 15, 3) := by decide +kernel
theorem dX12_valueTold_8 : decode cX12_valueTold 8 = .ok (.iload_n 2, 1) := by decide +kernel
theorem dX12_valueTold_9 : decode cX12_valueTold 9 = .ok (.i2l, 1) := by decide +kernel
theorem dX12_valueTold_10 : decode cX12_valueTold 10 = .ok (.lconst 0, 1) := by decide +kernel
theorem dX12_valueTold_11 : decode cX12_valueTold 11 = .ok (.ldc2_w 143, 3) := by decide +kernel
theorem dX12_valueTold_14 : decode cX12_valueTold 14 = .ok (.invokestatic 135, 3) := by decide +kernel
theorem dX12_valueTold_17 : decode cX12_valueTold 17 = .ok (.ifCond .ne 7, 3) := by decide +kernel
theorem dX12_valueTold_20 : decode cX12_valueTold 20 = .ok (.sipush (-1000), 3) := by decide +kernel
theorem dX12_valueTold_23 : decode cX12_valueTold 23 = .ok (.ireturn, 1) := by decide +kernel
theorem dX12_valueTold_24 : decode cX12_valueTold 24 = .ok (.iload_n 2, 1) := by decide +kernel
theorem dX12_valueTold_25 : decode cX12_valueTold 25 = .ok (.tableswitch 70 0 4 #[35, 42, 49, 56, 63], 35) := by decide +kernel
theorem dX12_valueTold_60 : decode cX12_valueTold 60 = .ok (.aload_n 0, 1) := by decide +kernel
theorem dX12_valueTold_61 : decode cX12_valueTold 61 = .ok (.getfield 7, 3) := by decide +kernel
theorem dX12_valueTold_64 : decode cX12_valueTold 64 = .ok (.iload_n 1, 1) := by decide +kernel
theorem dX12_valueTold_65 : decode cX12_valueTold 65 = .ok (.iaload, 1) := by decide +kernel
theorem dX12_valueTold_66 : decode cX12_valueTold 66 = .ok (.ireturn, 1) := by decide +kernel
theorem dX12_valueTold_67 : decode cX12_valueTold 67 = .ok (.aload_n 0, 1) := by decide +kernel
theorem dX12_valueTold_68 : decode cX12_valueTold 68 = .ok (.getfield 13, 3) := by decide +kernel
theorem dX12_valueTold_71 : decode cX12_valueTold 71 = .ok (.iload_n 1, 1) := by decide +kernel
theorem dX12_valueTold_72 : decode cX12_valueTold 72 = .ok (.iaload, 1) := by decide +kernel
theorem dX12_valueTold_73 : decode cX12_valueTold 73 = .ok (.ireturn, 1) := by decide +kernel
theorem dX12_valueTold_74 : decode cX12_valueTold 74 = .ok (.aload_n 0, 1) := by decide +kernel
theorem dX12_valueTold_75 : decode cX12_valueTold 75 = .ok (.getfield 22, 3) := by decide +kernel
theorem dX12_valueTold_78 : decode cX12_valueTold 78 = .ok (.iload_n 1, 1) := by decide +kernel
theorem dX12_valueTold_79 : decode cX12_valueTold 79 = .ok (.iaload, 1) := by decide +kernel
theorem dX12_valueTold_80 : decode cX12_valueTold 80 = .ok (.ireturn, 1) := by decide +kernel
theorem dX12_valueTold_81 : decode cX12_valueTold 81 = .ok (.aload_n 0, 1) := by decide +kernel
theorem dX12_valueTold_82 : decode cX12_valueTold 82 = .ok (.getfield 16, 3) := by decide +kernel
theorem dX12_valueTold_85 : decode cX12_valueTold 85 = .ok (.iload_n 1, 1) := by decide +kernel
theorem dX12_valueTold_86 : decode cX12_valueTold 86 = .ok (.iaload, 1) := by decide +kernel
theorem dX12_valueTold_87 : decode cX12_valueTold 87 = .ok (.ireturn, 1) := by decide +kernel
theorem dX12_valueTold_88 : decode cX12_valueTold 88 = .ok (.aload_n 0, 1) := by decide +kernel
theorem dX12_valueTold_89 : decode cX12_valueTold 89 = .ok (.getfield 19, 3) := by decide +kernel
theorem dX12_valueTold_92 : decode cX12_valueTold 92 = .ok (.iload_n 1, 1) := by decide +kernel
theorem dX12_valueTold_93 : decode cX12_valueTold 93 = .ok (.iaload, 1) := by decide +kernel
theorem dX12_valueTold_94 : decode cX12_valueTold 94 = .ok (.ireturn, 1) := by decide +kernel
theorem dX12_valueTold_95 : decode cX12_valueTold 95 = .ok (.aload_n 0, 1) := by decide +kernel
theorem dX12_valueTold_96 : decode cX12_valueTold 96 = .ok (.invokevirtual 284, 3) := by decide +kernel
theorem dX12_valueTold_99 : decode cX12_valueTold 99 = .ok (.aload_n 0, 1) := by decide +kernel
theorem dX12_valueTold_100 : decode cX12_valueTold 100 = .ok (.getfield 105, 3) := by decide +kernel
theorem dX12_valueTold_103 : decode cX12_valueTold 103 = .ok (.iload_n 1, 1) := by decide +kernel
theorem dX12_valueTold_104 : decode cX12_valueTold 104 = .ok (.baload, 1) := by decide +kernel
theorem dX12_valueTold_105 : decode cX12_valueTold 105 = .ok (.ifCond .eq 7, 3) := by decide +kernel
theorem dX12_valueTold_108 : decode cX12_valueTold 108 = .ok (.iconst 1, 1) := by decide +kernel
theorem dX12_valueTold_109 : decode cX12_valueTold 109 = .ok (.goto 4, 3) := by decide +kernel
theorem dX12_valueTold_112 : decode cX12_valueTold 112 = .ok (.iconst 0, 1) := by decide +kernel
theorem dX12_valueTold_113 : decode cX12_valueTold 113 = .ok (.ireturn, 1) := by decide +kernel
theorem dX12_isSet_0 : decode cX12_isSet 0 = .ok (.iload_n 1, 1) := by decide +kernel
theorem dX12_isSet_1 : decode cX12_isSet 1 = .ok (.ifCond .lt 14, 3) := by decide +kernel
theorem dX12_isSet_4 : decode cX12_isSet 4 = .ok (.iload_n 1, 1) := by decide +kernel
theorem dX12_isSet_5 : decode cX12_isSet 5 = .ok (.sipush 256, 3) := by decide +kernel
theorem dX12_isSet_8 : decode cX12_isSet 8 = .ok (.if_icmp .ge 7, 3) := by decide +kernel
theorem dX12_isSet_11 : decode cX12_isSet 11 = .ok (.iconst 1, 1) := by decide +kernel
theorem dX12_isSet_12 : decode cX12_isSet 12 = .ok (.goto 4, 3) := by decide +kernel
theorem dX12_isSet_15 : decode cX12_isSet 15 = .ok (.iconst 0, 1) := by decide +kernel
theorem dX12_isSet_16 : decode cX12_isSet 16 = .ok (.ireturn, 1) := by decide +kernel
theorem dX12_number_0 : decode cX12_number 0 = .ok (.aload_n 0, 1) := by decide +kernel
theorem dX12_number_1 : decode cX12_number 1 = .ok (.iload_n 1, 1) := by decide +kernel
theorem dX12_number_2 : decode cX12_number 2 = .ok (.invokevirtual 170, 3) := by decide +kernel
theorem dX12_number_5 : decode cX12_number 5 = .ok (.ifCond .eq 16, 3) := by decide +kernel
theorem dX12_number_8 : decode cX12_number 8 = .ok (.iload_n 2, 1) := by decide +kernel
theorem dX12_number_9 : decode cX12_number 9 = .ok (.iconst (-1), 1) := by decide +kernel
theorem dX12_number_10 : decode cX12_number 10 = .ok (.if_icmp .eq 15, 3) := by decide +kernel
theorem dX12_number_13 : decode cX12_number 13 = .ok (.aload_n 0, 1) := by decide +kernel
theorem dX12_number_14 : decode cX12_number 14 = .ok (.iload_n 2, 1) := by decide +kernel
theorem dX12_number_15 : decode cX12_number 15 = .ok (.invokevirtual 287, 3) := by decide +kernel
theorem dX12_number_18 : decode cX12_number 18 = .ok (.ifCond .ne 7, 3) := by decide +kernel
theorem dX12_number_21 : decode cX12_number 21 = .ok (.ldc2_w 290, 3) := by decide +kernel
theorem dX12_number_24 : decode cX12_number 24 = .ok (.lreturn, 1) := by decide +kernel
theorem dX12_number_25 : decode cX12_number 25 = .ok (.aload_n 0, 1) := by decide +kernel
theorem dX12_number_26 : decode cX12_number 26 = .ok (.invokevirtual 208, 3) := by decide +kernel
theorem dX12_number_29 : decode cX12_number 29 = .ok (.aload_n 0, 1) := by decide +kernel
theorem dX12_number_30 : decode cX12_number 30 = .ok (.getfield 85, 3) := by decide +kernel
theorem dX12_number_33 : decode cX12_number 33 = .ok (.bipush 10, 2) := by decide +kernel
theorem dX12_number_35 : decode cX12_number 35 = .ok (.iload_n 2, 1) := by decide +kernel
theorem dX12_number_36 : decode cX12_number 36 = .ok (.iconst (-1), 1) := by decide +kernel
theorem dX12_number_37 : decode cX12_number 37 = .ok (.if_icmp .ne 12, 3) := by decide +kernel
theorem dX12_number_40 : decode cX12_number 40 = .ok (.aload_n 0, 1) := by decide +kernel
theorem dX12_number_41 : decode cX12_number 41 = .ok (.getfield 70, 3) := by decide +kernel
theorem dX12_number_44 : decode cX12_number 44 = .ok (.iconst 3, 1) := by decide +kernel
theorem dX12_number_45 : decode cX12_number 45 = .ok (.iaload, 1) := by decide +kernel
theorem dX12_number_46 : decode cX12_number 46 = .ok (.goto 4, 3) := by decide +kernel
theorem dX12_number_49 : decode cX12_number 49 = .ok (.iload_n 2, 1) := by decide +kernel
theorem dX12_number_50 : decode cX12_number 50 = .ok (.imul, 1) := by decide +kernel
theorem dX12_number_51 : decode cX12_number 51 = .ok (.iload_n 1, 1) := by decide +kernel
theorem dX12_number_52 : decode cX12_number 52 = .ok (.iadd, 1) := by decide +kernel
theorem dX12_number_53 : decode cX12_number 53 = .ok (.laload, 1) := by decide +kernel
theorem dX12_number_54 : decode cX12_number 54 = .ok (.lreturn, 1) := by decide +kernel
theorem dX12_ruleTold_0 : decode cX12_ruleTold 0 = .ok (.aload_n 0, 1) := by decide +kernel
theorem dX12_ruleTold_1 : decode cX12_ruleTold 1 = .ok (.iload_n 1, 1) := by decide +kernel
theorem dX12_ruleTold_2 : decode cX12_ruleTold 2 = .ok (.invokevirtual 190, 3) := by decide +kernel
theorem dX12_ruleTold_5 : decode cX12_ruleTold 5 = .ok (.ifCond .eq 15, 3) := by decide +kernel
theorem dX12_ruleTold_8 : decode cX12_ruleTold 8 = .ok (.iload_n 2, 1) := by decide +kernel
theorem dX12_ruleTold_9 : decode cX12_ruleTold 9 = .ok (.i2l, 1) := by decide +kernel
theorem dX12_ruleTold_10 : decode cX12_ruleTold 10 = .ok (.lconst 0, 1) := by decide +kernel
theorem dX12_ruleTold_11 : decode cX12_ruleTold 11 = .ok (.ldc2_w 292, 3) := by decide +kernel
theorem dX12_ruleTold_14 : decode cX12_ruleTold 14 = .ok (.invokestatic 135, 3) := by decide +kernel
theorem dX12_ruleTold_17 : decode cX12_ruleTold 17 = .ok (.ifCond .ne 5, 3) := by decide +kernel
theorem dX12_ruleTold_20 : decode cX12_ruleTold 20 = .ok (.iconst (-1), 1) := by decide +kernel
theorem dX12_ruleTold_21 : decode cX12_ruleTold 21 = .ok (.ireturn, 1) := by decide +kernel
theorem dX12_ruleTold_22 : decode cX12_ruleTold 22 = .ok (.aload_n 0, 1) := by decide +kernel
theorem dX12_ruleTold_23 : decode cX12_ruleTold 23 = .ok (.getfield 25, 3) := by decide +kernel
theorem dX12_ruleTold_26 : decode cX12_ruleTold 26 = .ok (.iload_n 1, 1) := by decide +kernel
theorem dX12_ruleTold_27 : decode cX12_ruleTold 27 = .ok (.iaload, 1) := by decide +kernel
theorem dX12_ruleTold_28 : decode cX12_ruleTold 28 = .ok (.iconst 3, 1) := by decide +kernel
theorem dX12_ruleTold_29 : decode cX12_ruleTold 29 = .ok (.if_icmp .gt 7, 3) := by decide +kernel
theorem dX12_ruleTold_32 : decode cX12_ruleTold 32 = .ok (.iconst 1, 1) := by decide +kernel
theorem dX12_ruleTold_33 : decode cX12_ruleTold 33 = .ok (.goto 4, 3) := by decide +kernel
theorem dX12_ruleTold_36 : decode cX12_ruleTold 36 = .ok (.iconst 0, 1) := by decide +kernel
theorem dX12_ruleTold_37 : decode cX12_ruleTold 37 = .ok (.istore_n 3, 1) := by decide +kernel
theorem dX12_ruleTold_38 : decode cX12_ruleTold 38 = .ok (.iload_n 2, 1) := by decide +kernel
theorem dX12_ruleTold_39 : decode cX12_ruleTold 39 = .ok (.tableswitch 135 0 7 #[45, 52, 59, 66, 73, 80, 98, 116], 45) := by decide +kernel
theorem dX12_ruleTold_84 : decode cX12_ruleTold 84 = .ok (.aload_n 0, 1) := by decide +kernel
theorem dX12_ruleTold_85 : decode cX12_ruleTold 85 = .ok (.getfield 25, 3) := by decide +kernel
theorem dX12_ruleTold_88 : decode cX12_ruleTold 88 = .ok (.iload_n 1, 1) := by decide +kernel
theorem dX12_ruleTold_89 : decode cX12_ruleTold 89 = .ok (.iaload, 1) := by decide +kernel
theorem dX12_ruleTold_90 : decode cX12_ruleTold 90 = .ok (.ireturn, 1) := by decide +kernel
theorem dX12_ruleTold_91 : decode cX12_ruleTold 91 = .ok (.aload_n 0, 1) := by decide +kernel
theorem dX12_ruleTold_92 : decode cX12_ruleTold 92 = .ok (.getfield 28, 3) := by decide +kernel
theorem dX12_ruleTold_95 : decode cX12_ruleTold 95 = .ok (.iload_n 1, 1) := by decide +kernel
theorem dX12_ruleTold_96 : decode cX12_ruleTold 96 = .ok (.iaload, 1) := by decide +kernel
theorem dX12_ruleTold_97 : decode cX12_ruleTold 97 = .ok (.ireturn, 1) := by decide +kernel
theorem dX12_ruleTold_98 : decode cX12_ruleTold 98 = .ok (.aload_n 0, 1) := by decide +kernel
theorem dX12_ruleTold_99 : decode cX12_ruleTold 99 = .ok (.getfield 31, 3) := by decide +kernel
theorem dX12_ruleTold_102 : decode cX12_ruleTold 102 = .ok (.iload_n 1, 1) := by decide +kernel
theorem dX12_ruleTold_103 : decode cX12_ruleTold 103 = .ok (.iaload, 1) := by decide +kernel
theorem dX12_ruleTold_104 : decode cX12_ruleTold 104 = .ok (.ireturn, 1) := by decide +kernel
theorem dX12_ruleTold_105 : decode cX12_ruleTold 105 = .ok (.aload_n 0, 1) := by decide +kernel
theorem dX12_ruleTold_106 : decode cX12_ruleTold 106 = .ok (.getfield 34, 3) := by decide +kernel
theorem dX12_ruleTold_109 : decode cX12_ruleTold 109 = .ok (.iload_n 1, 1) := by decide +kernel
theorem dX12_ruleTold_110 : decode cX12_ruleTold 110 = .ok (.iaload, 1) := by decide +kernel
theorem dX12_ruleTold_111 : decode cX12_ruleTold 111 = .ok (.ireturn, 1) := by decide +kernel
theorem dX12_ruleTold_112 : decode cX12_ruleTold 112 = .ok (.aload_n 0, 1) := by decide +kernel
theorem dX12_ruleTold_113 : decode cX12_ruleTold 113 = .ok (.getfield 37, 3) := by decide +kernel
theorem dX12_ruleTold_116 : decode cX12_ruleTold 116 = .ok (.iload_n 1, 1) := by decide +kernel
theorem dX12_ruleTold_117 : decode cX12_ruleTold 117 = .ok (.iaload, 1) := by decide +kernel
theorem dX12_ruleTold_118 : decode cX12_ruleTold 118 = .ok (.ireturn, 1) := by decide +kernel
theorem dX12_ruleTold_119 : decode cX12_ruleTold 119 = .ok (.aload_n 0, 1) := by decide +kernel
theorem dX12_ruleTold_120 : decode cX12_ruleTold 120 = .ok (.invokevirtual 284, 3) := by decide +kernel
theorem dX12_ruleTold_123 : decode cX12_ruleTold 123 = .ok (.aload_n 0, 1) := by decide +kernel
theorem dX12_ruleTold_124 : decode cX12_ruleTold 124 = .ok (.iload_n 1, 1) := by decide +kernel
theorem dX12_ruleTold_125 : decode cX12_ruleTold 125 = .ok (.invokevirtual 231, 3) := by decide +kernel
theorem dX12_ruleTold_128 : decode cX12_ruleTold 128 = .ok (.ifCond .eq 7, 3) := by decide +kernel
theorem dX12_ruleTold_131 : decode cX12_ruleTold 131 = .ok (.iconst 1, 1) := by decide +kernel
theorem dX12_ruleTold_132 : decode cX12_ruleTold 132 = .ok (.goto 4, 3) := by decide +kernel
theorem dX12_ruleTold_135 : decode cX12_ruleTold 135 = .ok (.iconst 0, 1) := by decide +kernel
theorem dX12_ruleTold_136 : decode cX12_ruleTold 136 = .ok (.ireturn, 1) := by decide +kernel
theorem dX12_ruleTold_137 : decode cX12_ruleTold 137 = .ok (.aload_n 0, 1) := by decide +kernel
theorem dX12_ruleTold_138 : decode cX12_ruleTold 138 = .ok (.invokevirtual 284, 3) := by decide +kernel
theorem dX12_ruleTold_141 : decode cX12_ruleTold 141 = .ok (.aload_n 0, 1) := by decide +kernel
theorem dX12_ruleTold_142 : decode cX12_ruleTold 142 = .ok (.iload_n 1, 1) := by decide +kernel
theorem dX12_ruleTold_143 : decode cX12_ruleTold 143 = .ok (.invokevirtual 234, 3) := by decide +kernel
theorem dX12_ruleTold_146 : decode cX12_ruleTold 146 = .ok (.ifCond .eq 7, 3) := by decide +kernel
theorem dX12_ruleTold_149 : decode cX12_ruleTold 149 = .ok (.iconst 1, 1) := by decide +kernel
theorem dX12_ruleTold_150 : decode cX12_ruleTold 150 = .ok (.goto 4, 3) := by decide +kernel
theorem dX12_ruleTold_153 : decode cX12_ruleTold 153 = .ok (.iconst 0, 1) := by decide +kernel
theorem dX12_ruleTold_154 : decode cX12_ruleTold 154 = .ok (.ireturn, 1) := by decide +kernel
theorem dX12_ruleTold_155 : decode cX12_ruleTold 155 = .ok (.aload_n 0, 1) := by decide +kernel
theorem dX12_ruleTold_156 : decode cX12_ruleTold 156 = .ok (.invokevirtual 284, 3) := by decide +kernel
theorem dX12_ruleTold_159 : decode cX12_ruleTold 159 = .ok (.iload_n 3, 1) := by decide +kernel
theorem dX12_ruleTold_160 : decode cX12_ruleTold 160 = .ok (.ifCond .eq 12, 3) := by decide +kernel
theorem dX12_ruleTold_163 : decode cX12_ruleTold 163 = .ok (.aload_n 0, 1) := by decide +kernel
theorem dX12_ruleTold_164 : decode cX12_ruleTold 164 = .ok (.getfield 99, 3) := by decide +kernel
theorem dX12_ruleTold_167 : decode cX12_ruleTold 167 = .ok (.iload_n 1, 1) := by decide +kernel
theorem dX12_ruleTold_168 : decode cX12_ruleTold 168 = .ok (.iaload, 1) := by decide +kernel
theorem dX12_ruleTold_169 : decode cX12_ruleTold 169 = .ok (.goto 4, 3) := by decide +kernel
theorem dX12_ruleTold_172 : decode cX12_ruleTold 172 = .ok (.iconst (-1), 1) := by decide +kernel
theorem dX12_ruleTold_173 : decode cX12_ruleTold 173 = .ok (.ireturn, 1) := by decide +kernel
theorem dX12_ruleTold_174 : decode cX12_ruleTold 174 = .ok (.aload_n 0, 1) := by decide +kernel
theorem dX12_ruleTold_175 : decode cX12_ruleTold 175 = .ok (.invokevirtual 284, 3) := by decide +kernel
theorem dX12_ruleTold_178 : decode cX12_ruleTold 178 = .ok (.iload_n 3, 1) := by decide +kernel
theorem dX12_ruleTold_179 : decode cX12_ruleTold 179 = .ok (.ifCond .eq 12, 3) := by decide +kernel
theorem dX12_ruleTold_182 : decode cX12_ruleTold 182 = .ok (.aload_n 0, 1) := by decide +kernel
theorem dX12_ruleTold_183 : decode cX12_ruleTold 183 = .ok (.getfield 102, 3) := by decide +kernel
theorem dX12_ruleTold_186 : decode cX12_ruleTold 186 = .ok (.iload_n 1, 1) := by decide +kernel
theorem dX12_ruleTold_187 : decode cX12_ruleTold 187 = .ok (.iaload, 1) := by decide +kernel
theorem dX12_ruleTold_188 : decode cX12_ruleTold 188 = .ok (.goto 4, 3) := by decide +kernel
theorem dX12_ruleTold_191 : decode cX12_ruleTold 191 = .ok (.iconst (-1), 1) := by decide +kernel
theorem dX12_ruleTold_192 : decode cX12_ruleTold 192 = .ok (.ireturn, 1) := by decide +kernel
theorem dX12_amount_0 : decode cX12_amount 0 = .ok (.aload_n 0, 1) := by decide +kernel
theorem dX12_amount_1 : decode cX12_amount 1 = .ok (.iload_n 1, 1) := by decide +kernel
theorem dX12_amount_2 : decode cX12_amount 2 = .ok (.invokevirtual 190, 3) := by decide +kernel
theorem dX12_amount_5 : decode cX12_amount 5 = .ok (.ifCond .eq 13, 3) := by decide +kernel
theorem dX12_amount_8 : decode cX12_amount 8 = .ok (.aload_n 0, 1) := by decide +kernel
theorem dX12_amount_9 : decode cX12_amount 9 = .ok (.getfield 25, 3) := by decide +kernel
theorem dX12_amount_12 : decode cX12_amount 12 = .ok (.iload_n 1, 1) := by decide +kernel
theorem dX12_amount_13 : decode cX12_amount 13 = .ok (.iaload, 1) := by decide +kernel
theorem dX12_amount_14 : decode cX12_amount 14 = .ok (.iconst 3, 1) := by decide +kernel
theorem dX12_amount_15 : decode cX12_amount 15 = .ok (.if_icmp .le 7, 3) := by decide +kernel
theorem dX12_amount_18 : decode cX12_amount 18 = .ok (.ldc2_w 290, 3) := by decide +kernel
theorem dX12_amount_21 : decode cX12_amount 21 = .ok (.lreturn, 1) := by decide +kernel
theorem dX12_amount_22 : decode cX12_amount 22 = .ok (.aload_n 0, 1) := by decide +kernel
theorem dX12_amount_23 : decode cX12_amount 23 = .ok (.invokevirtual 284, 3) := by decide +kernel
theorem dX12_amount_26 : decode cX12_amount 26 = .ok (.aload_n 0, 1) := by decide +kernel
theorem dX12_amount_27 : decode cX12_amount 27 = .ok (.iload_n 1, 1) := by decide +kernel
theorem dX12_amount_28 : decode cX12_amount 28 = .ok (.invokevirtual 241, 3) := by decide +kernel
theorem dX12_amount_31 : decode cX12_amount 31 = .ok (.lreturn, 1) := by decide +kernel
theorem dX12_choice_0 : decode cX12_choice 0 = .ok (.iload_n 1, 1) := by decide +kernel
theorem dX12_choice_1 : decode cX12_choice 1 = .ok (.invokestatic 160, 3) := by decide +kernel
theorem dX12_choice_4 : decode cX12_choice 4 = .ok (.ifCond .eq 15, 3) := by decide +kernel
theorem dX12_choice_7 : decode cX12_choice 7 = .ok (.iload_n 2, 1) := by decide +kernel
theorem dX12_choice_8 : decode cX12_choice 8 = .ok (.i2l, 1) := by decide +kernel
theorem dX12_choice_9 : decode cX12_choice 9 = .ok (.lconst 0, 1) := by decide +kernel
theorem dX12_choice_10 : decode cX12_choice 10 = .ok (.ldc2_w 145, 3) := by decide +kernel
theorem dX12_choice_13 : decode cX12_choice 13 = .ok (.invokestatic 135, 3) := by decide +kernel
theorem dX12_choice_16 : decode cX12_choice 16 = .ok (.ifCond .ne 5, 3) := by decide +kernel
theorem dX12_choice_19 : decode cX12_choice 19 = .ok (.iconst (-1), 1) := by decide +kernel
theorem dX12_choice_20 : decode cX12_choice 20 = .ok (.ireturn, 1) := by decide +kernel
theorem dX12_choice_21 : decode cX12_choice 21 = .ok (.iload_n 2, 1) := by decide +kernel
theorem dX12_choice_22 : decode cX12_choice 22 = .ok (.ifCond .ne 14, 3) := by decide +kernel
theorem dX12_choice_25 : decode cX12_choice 25 = .ok (.aload_n 0, 1) := by decide +kernel
theorem dX12_choice_26 : decode cX12_choice 26 = .ok (.getfield 70, 3) := by decide +kernel
theorem dX12_choice_29 : decode cX12_choice 29 = .ok (.iconst 3, 1) := by decide +kernel
theorem dX12_choice_30 : decode cX12_choice 30 = .ok (.iaload, 1) := by decide +kernel
theorem dX12_choice_31 : decode cX12_choice 31 = .ok (.iload_n 1, 1) := by decide +kernel
theorem dX12_choice_32 : decode cX12_choice 32 = .ok (.ishr, 1) := by decide +kernel
theorem dX12_choice_33 : decode cX12_choice 33 = .ok (.iconst 1, 1) := by decide +kernel
theorem dX12_choice_34 : decode cX12_choice 34 = .ok (.iand, 1) := by decide +kernel
theorem dX12_choice_35 : decode cX12_choice 35 = .ok (.ireturn, 1) := by decide +kernel
theorem dX12_choice_36 : decode cX12_choice 36 = .ok (.iload_n 2, 1) := by decide +kernel
theorem dX12_choice_37 : decode cX12_choice 37 = .ok (.iconst 1, 1) := by decide +kernel
theorem dX12_choice_38 : decode cX12_choice 38 = .ok (.if_icmp .ne 14, 3) := by decide +kernel
theorem dX12_choice_41 : decode cX12_choice 41 = .ok (.aload_n 0, 1) := by decide +kernel
theorem dX12_choice_42 : decode cX12_choice 42 = .ok (.getfield 70, 3) := by decide +kernel
theorem dX12_choice_45 : decode cX12_choice 45 = .ok (.iconst 4, 1) := by decide +kernel
theorem dX12_choice_46 : decode cX12_choice 46 = .ok (.iaload, 1) := by decide +kernel
theorem dX12_choice_47 : decode cX12_choice 47 = .ok (.iload_n 1, 1) := by decide +kernel
theorem dX12_choice_48 : decode cX12_choice 48 = .ok (.ishr, 1) := by decide +kernel
theorem dX12_choice_49 : decode cX12_choice 49 = .ok (.iconst 1, 1) := by decide +kernel
theorem dX12_choice_50 : decode cX12_choice 50 = .ok (.iand, 1) := by decide +kernel
theorem dX12_choice_51 : decode cX12_choice 51 = .ok (.ireturn, 1) := by decide +kernel
theorem dX12_choice_52 : decode cX12_choice 52 = .ok (.aload_n 0, 1) := by decide +kernel
theorem dX12_choice_53 : decode cX12_choice 53 = .ok (.invokevirtual 208, 3) := by decide +kernel
theorem dX12_choice_56 : decode cX12_choice 56 = .ok (.aload_n 0, 1) := by decide +kernel
theorem dX12_choice_57 : decode cX12_choice 57 = .ok (.getfield 92, 3) := by decide +kernel
theorem dX12_choice_60 : decode cX12_choice 60 = .ok (.aload_n 0, 1) := by decide +kernel
theorem dX12_choice_61 : decode cX12_choice 61 = .ok (.getfield 70, 3) := by decide +kernel
theorem dX12_choice_64 : decode cX12_choice 64 = .ok (.iconst 3, 1) := by decide +kernel
theorem dX12_choice_65 : decode cX12_choice 65 = .ok (.iaload, 1) := by decide +kernel
theorem dX12_choice_66 : decode cX12_choice 66 = .ok (.iconst 1, 1) := by decide +kernel
theorem dX12_choice_67 : decode cX12_choice 67 = .ok (.iload_n 1, 1) := by decide +kernel
theorem dX12_choice_68 : decode cX12_choice 68 = .ok (.ishl, 1) := by decide +kernel
theorem dX12_choice_69 : decode cX12_choice 69 = .ok (.iconst (-1), 1) := by decide +kernel
theorem dX12_choice_70 : decode cX12_choice 70 = .ok (.ixor, 1) := by decide +kernel
theorem dX12_choice_71 : decode cX12_choice 71 = .ok (.iand, 1) := by decide +kernel
theorem dX12_choice_72 : decode cX12_choice 72 = .ok (.iaload, 1) := by decide +kernel
theorem dX12_choice_73 : decode cX12_choice 73 = .ok (.iload_n 1, 1) := by decide +kernel
theorem dX12_choice_74 : decode cX12_choice 74 = .ok (.ishr, 1) := by decide +kernel
theorem dX12_choice_75 : decode cX12_choice 75 = .ok (.iconst 1, 1) := by decide +kernel
theorem dX12_choice_76 : decode cX12_choice 76 = .ok (.iand, 1) := by decide +kernel
theorem dX12_choice_77 : decode cX12_choice 77 = .ok (.ireturn, 1) := by decide +kernel
theorem dX12_lawful_0 : decode cX12_lawful 0 = .ok (.iload_n 1, 1) := by decide +kernel
theorem dX12_lawful_1 : decode cX12_lawful 1 = .ok (.iconst (-1), 1) := by decide +kernel
theorem dX12_lawful_2 : decode cX12_lawful 2 = .ok (.if_icmp .eq 13, 3) := by decide +kernel
theorem dX12_lawful_5 : decode cX12_lawful 5 = .ok (.aload_n 0, 1) := by decide +kernel
theorem dX12_lawful_6 : decode cX12_lawful 6 = .ok (.iload_n 1, 1) := by decide +kernel
theorem dX12_lawful_7 : decode cX12_lawful 7 = .ok (.invokevirtual 287, 3) := by decide +kernel
theorem dX12_lawful_10 : decode cX12_lawful 10 = .ok (.ifCond .ne 5, 3) := by decide +kernel
theorem dX12_lawful_13 : decode cX12_lawful 13 = .ok (.iconst (-1), 1) := by decide +kernel
theorem dX12_lawful_14 : decode cX12_lawful 14 = .ok (.ireturn, 1) := by decide +kernel
theorem dX12_lawful_15 : decode cX12_lawful 15 = .ok (.aload_n 0, 1) := by decide +kernel
theorem dX12_lawful_16 : decode cX12_lawful 16 = .ok (.invokevirtual 208, 3) := by decide +kernel
theorem dX12_lawful_19 : decode cX12_lawful 19 = .ok (.aload_n 0, 1) := by decide +kernel
theorem dX12_lawful_20 : decode cX12_lawful 20 = .ok (.getfield 95, 3) := by decide +kernel
theorem dX12_lawful_23 : decode cX12_lawful 23 = .ok (.iload_n 1, 1) := by decide +kernel
theorem dX12_lawful_24 : decode cX12_lawful 24 = .ok (.iconst (-1), 1) := by decide +kernel
theorem dX12_lawful_25 : decode cX12_lawful 25 = .ok (.if_icmp .ne 12, 3) := by decide +kernel
theorem dX12_lawful_28 : decode cX12_lawful 28 = .ok (.aload_n 0, 1) := by decide +kernel
theorem dX12_lawful_29 : decode cX12_lawful 29 = .ok (.getfield 70, 3) := by decide +kernel
theorem dX12_lawful_32 : decode cX12_lawful 32 = .ok (.iconst 3, 1) := by decide +kernel
theorem dX12_lawful_33 : decode cX12_lawful 33 = .ok (.iaload, 1) := by decide +kernel
theorem dX12_lawful_34 : decode cX12_lawful 34 = .ok (.goto 4, 3) := by decide +kernel
theorem dX12_lawful_37 : decode cX12_lawful 37 = .ok (.iload_n 1, 1) := by decide +kernel
theorem dX12_lawful_38 : decode cX12_lawful 38 = .ok (.baload, 1) := by decide +kernel
theorem dX12_lawful_39 : decode cX12_lawful 39 = .ok (.ifCond .eq 7, 3) := by decide +kernel
