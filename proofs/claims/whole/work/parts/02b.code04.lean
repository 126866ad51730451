theorem dX12_lawful_42 : decode cX12_lawful 42 = .ok (.iconst 1, 1) := by decide +kernel
theorem dX12_lawful_43 : decode cX12_lawful 43 = .ok (.goto 4, 3) := by decide +kernel
theorem dX12_lawful_46 : decode cX12_lawful 46 = .ok (.iconst 0, 1) := by decide +kernel
theorem dX12_lawful_47 : decode cX12_lawful 47 = .ok (.ireturn, 1) := by decide +kernel
theorem dX12_mend_0 : decode cX12_mend 0 = .ok (.aload_n 0, 1) := by decide +kernel
theorem dX12_mend_1 : decode cX12_mend 1 = .ok (.invokevirtual 208, 3) := by decide +kernel
theorem dX12_mend_4 : decode cX12_mend 4 = .ok (.iconst 0, 1) := by decide +kernel
theorem dX12_mend_5 : decode cX12_mend 5 = .ok (.istore_n 1, 1) := by decide +kernel
theorem dX12_mend_6 : decode cX12_mend 6 = .ok (.iconst 0, 1) := by decide +kernel
theorem dX12_mend_7 : decode cX12_mend 7 = .ok (.istore_n 2, 1) := by decide +kernel
theorem dX12_mend_8 : decode cX12_mend 8 = .ok (.iload_n 2, 1) := by decide +kernel
theorem dX12_mend_9 : decode cX12_mend 9 = .ok (.sipush 256, 3) := by decide +kernel
theorem dX12_mend_12 : decode cX12_mend 12 = .ok (.if_icmp .ge 44, 3) := by decide +kernel
theorem dX12_mend_15 : decode cX12_mend 15 = .ok (.iload_n 2, 1) := by decide +kernel
theorem dX12_mend_16 : decode cX12_mend 16 = .ok (.aload_n 0, 1) := by decide +kernel
theorem dX12_mend_17 : decode cX12_mend 17 = .ok (.getfield 70, 3) := by decide +kernel
theorem dX12_mend_20 : decode cX12_mend 20 = .ok (.iconst 3, 1) := by decide +kernel
theorem dX12_mend_21 : decode cX12_mend 21 = .ok (.iaload, 1) := by decide +kernel
theorem dX12_mend_22 : decode cX12_mend 22 = .ok (.iconst (-1), 1) := by decide +kernel
theorem dX12_mend_23 : decode cX12_mend 23 = .ok (.ixor, 1) := by decide +kernel
theorem dX12_mend_24 : decode cX12_mend 24 = .ok (.iand, 1) := by decide +kernel
theorem dX12_mend_25 : decode cX12_mend 25 = .ok (.ifCond .ne 25, 3) := by decide +kernel
theorem dX12_mend_28 : decode cX12_mend 28 = .ok (.aload_n 0, 1) := by decide +kernel
theorem dX12_mend_29 : decode cX12_mend 29 = .ok (.getfield 95, 3) := by decide +kernel
theorem dX12_mend_32 : decode cX12_mend 32 = .ok (.iload_n 2, 1) := by decide +kernel
theorem dX12_mend_33 : decode cX12_mend 33 = .ok (.baload, 1) := by decide +kernel
theorem dX12_mend_34 : decode cX12_mend 34 = .ok (.ifCond .eq 16, 3) := by decide +kernel
theorem dX12_mend_37 : decode cX12_mend 37 = .ok (.iload_n 2, 1) := by decide +kernel
theorem dX12_mend_38 : decode cX12_mend 38 = .ok (.invokestatic 203, 3) := by decide +kernel
theorem dX12_mend_41 : decode cX12_mend 41 = .ok (.iload_n 1, 1) := by decide +kernel
theorem dX12_mend_42 : decode cX12_mend 42 = .ok (.invokestatic 203, 3) := by decide +kernel
theorem dX12_mend_45 : decode cX12_mend 45 = .ok (.if_icmp .lt 5, 3) := by decide +kernel
theorem dX12_mend_48 : decode cX12_mend 48 = .ok (.iload_n 2, 1) := by decide +kernel
theorem dX12_mend_49 : decode cX12_mend 49 = .ok (.istore_n 1, 1) := by decide +kernel
theorem dX12_mend_50 : decode cX12_mend 50 = .ok (.iinc 2 1, 3) := by decide +kernel
theorem dX12_mend_53 : decode cX12_mend 53 = .ok (.goto (-45), 3) := by decide +kernel
theorem dX12_mend_56 : decode cX12_mend 56 = .ok (.iload_n 1, 1) := by decide +kernel
theorem dX12_mend_57 : decode cX12_mend 57 = .ok (.ireturn, 1) := by decide +kernel
theorem dX12_best_0 : decode cX12_best 0 = .ok (.aload_n 0, 1) := by decide +kernel
theorem dX12_best_1 : decode cX12_best 1 = .ok (.iload_n 1, 1) := by decide +kernel
theorem dX12_best_2 : decode cX12_best 2 = .ok (.invokevirtual 170, 3) := by decide +kernel
theorem dX12_best_5 : decode cX12_best 5 = .ok (.ifCond .eq 19, 3) := by decide +kernel
theorem dX12_best_8 : decode cX12_best 8 = .ok (.aload_n 0, 1) := by decide +kernel
theorem dX12_best_9 : decode cX12_best 9 = .ok (.iload_n 2, 1) := by decide +kernel
theorem dX12_best_10 : decode cX12_best 10 = .ok (.invokevirtual 287, 3) := by decide +kernel
theorem dX12_best_13 : decode cX12_best 13 = .ok (.ifCond .eq 11, 3) := by decide +kernel
theorem dX12_best_16 : decode cX12_best 16 = .ok (.aload_n 0, 1) := by decide +kernel
theorem dX12_best_17 : decode cX12_best 17 = .ok (.iload_n 3, 1) := by decide +kernel
theorem dX12_best_18 : decode cX12_best 18 = .ok (.invokevirtual 287, 3) := by decide +kernel
theorem dX12_best_21 : decode cX12_best 21 = .ok (.ifCond .ne 5, 3) := by decide +kernel
theorem dX12_best_24 : decode cX12_best 24 = .ok (.iconst (-1), 1) := by decide +kernel
theorem dX12_best_25 : decode cX12_best 25 = .ok (.ireturn, 1) := by decide +kernel
theorem dX12_best_26 : decode cX12_best 26 = .ok (.aload_n 0, 1) := by decide +kernel
theorem dX12_best_27 : decode cX12_best 27 = .ok (.invokevirtual 208, 3) := by decide +kernel
theorem dX12_best_30 : decode cX12_best 30 = .ok (.iconst (-1), 1) := by decide +kernel
theorem dX12_best_31 : decode cX12_best 31 = .ok (.istore 5, 2) := by decide +kernel
theorem dX12_best_33 : decode cX12_best 33 = .ok (.iconst 0, 1) := by decide +kernel
theorem dX12_best_34 : decode cX12_best 34 = .ok (.istore 6, 2) := by decide +kernel
theorem dX12_best_36 : decode cX12_best 36 = .ok (.iload 6, 2) := by decide +kernel
theorem dX12_best_38 : decode cX12_best 38 = .ok (.sipush 256, 3) := by decide +kernel
theorem dX12_best_41 : decode cX12_best 41 = .ok (.if_icmp .ge 104, 3) := by decide +kernel
theorem dX12_best_44 : decode cX12_best 44 = .ok (.aload_n 0, 1) := by decide +kernel
theorem dX12_best_45 : decode cX12_best 45 = .ok (.getfield 95, 3) := by decide +kernel
theorem dX12_best_48 : decode cX12_best 48 = .ok (.iload 6, 2) := by decide +kernel
theorem dX12_best_50 : decode cX12_best 50 = .ok (.baload, 1) := by decide +kernel
theorem dX12_best_51 : decode cX12_best 51 = .ok (.ifCond .eq 88, 3) := by decide +kernel
theorem dX12_best_54 : decode cX12_best 54 = .ok (.iload 6, 2) := by decide +kernel
theorem dX12_best_56 : decode cX12_best 56 = .ok (.iload_n 2, 1) := by decide +kernel
theorem dX12_best_57 : decode cX12_best 57 = .ok (.iand, 1) := by decide +kernel
theorem dX12_best_58 : decode cX12_best 58 = .ok (.iload_n 2, 1) := by decide +kernel
theorem dX12_best_59 : decode cX12_best 59 = .ok (.if_icmp .ne 80, 3) := by decide +kernel
theorem dX12_best_62 : decode cX12_best 62 = .ok (.iload 6, 2) := by decide +kernel
theorem dX12_best_64 : decode cX12_best 64 = .ok (.iload_n 3, 1) := by decide +kernel
theorem dX12_best_65 : decode cX12_best 65 = .ok (.iand, 1) := by decide +kernel
theorem dX12_best_66 : decode cX12_best 66 = .ok (.ifCond .eq 6, 3) := by decide +kernel
theorem dX12_best_69 : decode cX12_best 69 = .ok (.goto 70, 3) := by decide +kernel
theorem dX12_best_72 : decode cX12_best 72 = .ok (.aload_n 0, 1) := by decide +kernel
theorem dX12_best_73 : decode cX12_best 73 = .ok (.getfield 85, 3) := by decide +kernel
theorem dX12_best_76 : decode cX12_best 76 = .ok (.bipush 10, 2) := by decide +kernel
theorem dX12_best_78 : decode cX12_best 78 = .ok (.iload 6, 2) := by decide +kernel
theorem dX12_best_80 : decode cX12_best 80 = .ok (.imul, 1) := by decide +kernel
theorem dX12_best_81 : decode cX12_best 81 = .ok (.iload_n 1, 1) := by decide +kernel
theorem dX12_best_82 : decode cX12_best 82 = .ok (.iadd, 1) := by decide +kernel
theorem dX12_best_83 : decode cX12_best 83 = .ok (.laload, 1) := by decide +kernel
theorem dX12_best_84 : decode cX12_best 84 = .ok (.lstore 7, 2) := by decide +kernel
theorem dX12_best_86 : decode cX12_best 86 = .ok (.iload 5, 2) := by decide +kernel
theorem dX12_best_88 : decode cX12_best 88 = .ok (.ifCond .lt 47, 3) := by decide +kernel
theorem dX12_best_91 : decode cX12_best 91 = .ok (.iload 4, 2) := by decide +kernel
theorem dX12_best_93 : decode cX12_best 93 = .ok (.ifCond .eq 24, 3) := by decide +kernel
theorem dX12_best_96 : decode cX12_best 96 = .ok (.lload 7, 2) := by decide +kernel
theorem dX12_best_98 : decode cX12_best 98 = .ok (.aload_n 0, 1) := by decide +kernel
theorem dX12_best_99 : decode cX12_best 99 = .ok (.getfield 85, 3) := by decide +kernel
theorem dX12_best_102 : decode cX12_best 102 = .ok (.bipush 10, 2) := by decide +kernel
theorem dX12_best_104 : decode cX12_best 104 = .ok (.iload 5, 2) := by decide +kernel
theorem dX12_best_106 : decode cX12_best 106 = .ok (.imul, 1) := by decide +kernel
theorem dX12_best_107 : decode cX12_best 107 = .ok (.iload_n 1, 1) := by decide +kernel
theorem dX12_best_108 : decode cX12_best 108 = .ok (.iadd, 1) := by decide +kernel
theorem dX12_best_109 : decode cX12_best 109 = .ok (.laload, 1) := by decide +kernel
theorem dX12_best_110 : decode cX12_best 110 = .ok (.lcmp, 1) := by decide +kernel
theorem dX12_best_111 : decode cX12_best 111 = .ok (.ifCond .ge 28, 3) := by decide +kernel
theorem dX12_best_114 : decode cX12_best 114 = .ok (.goto 21, 3) := by decide +kernel
theorem dX12_best_117 : decode cX12_best 117 = .ok (.lload 7, 2) := by decide +kernel
theorem dX12_best_119 : decode cX12_best 119 = .ok (.aload_n 0, 1) := by decide +kernel
theorem dX12_best_120 : decode cX12_best 120 = .ok (.getfield 85, 3) := by decide +kernel
theorem dX12_best_123 : decode cX12_best 123 = .ok (.bipush 10, 2) := by decide +kernel
theorem dX12_best_125 : decode cX12_best 125 = .ok (.iload 5, 2) := by decide +kernel
theorem dX12_best_127 : decode cX12_best 127 = .ok (.imul, 1) := by decide +kernel
theorem dX12_best_128 : decode cX12_best 128 = .ok (.iload_n 1, 1) := by decide +kernel
theorem dX12_best_129 : decode cX12_best 129 = .ok (.iadd, 1) := by decide +kernel
theorem dX12_best_130 : decode cX12_best 130 = .ok (.laload, 1) := by decide +kernel
theorem dX12_best_131 : decode cX12_best 131 = .ok (.lcmp, 1) := by decide +kernel
theorem dX12_best_132 : decode cX12_best 132 = .ok (.ifCond .le 7, 3) := by decide +kernel
theorem dX12_best_135 : decode cX12_best 135 = .ok (.iload 6, 2) := by decide +kernel
theorem dX12_best_137 : decode cX12_best 137 = .ok (.istore 5, 2) := by decide +kernel
theorem dX12_best_139 : decode cX12_best 139 = .ok (.iinc 6 1, 3) := by decide +kernel
theorem dX12_best_142 : decode cX12_best 142 = .ok (.goto (-106), 3) := by decide +kernel
theorem dX12_best_145 : decode cX12_best 145 = .ok (.iload 5, 2) := by decide +kernel
theorem dX12_best_147 : decode cX12_best 147 = .ok (.ireturn, 1) := by decide +kernel
theorem dX12_most_0 : decode cX12_most 0 = .ok (.aload_n 0, 1) := by decide +kernel
theorem dX12_most_1 : decode cX12_most 1 = .ok (.iload_n 1, 1) := by decide +kernel
theorem dX12_most_2 : decode cX12_most 2 = .ok (.iload_n 2, 1) := by decide +kernel
theorem dX12_most_3 : decode cX12_most 3 = .ok (.iload_n 3, 1) := by decide +kernel
theorem dX12_most_4 : decode cX12_most 4 = .ok (.iload 4, 2) := by decide +kernel
theorem dX12_most_6 : decode cX12_most 6 = .ok (.invokevirtual 294, 3) := by decide +kernel
theorem dX12_most_9 : decode cX12_most 9 = .ok (.istore 5, 2) := by decide +kernel
theorem dX12_most_11 : decode cX12_most 11 = .ok (.iload 5, 2) := by decide +kernel
theorem dX12_most_13 : decode cX12_most 13 = .ok (.ifCond .ge 9, 3) := by decide +kernel
theorem dX12_most_16 : decode cX12_most 16 = .ok (.ldc2_w 290, 3) := by decide +kernel
theorem dX12_most_19 : decode cX12_most 19 = .ok (.goto 15, 3) := by decide +kernel
theorem dX12_most_22 : decode cX12_most 22 = .ok (.aload_n 0, 1) := by decide +kernel
theorem dX12_most_23 : decode cX12_most 23 = .ok (.getfield 85, 3) := by decide +kernel
theorem dX12_most_26 : decode cX12_most 26 = .ok (.bipush 10, 2) := by decide +kernel
theorem dX12_most_28 : decode cX12_most 28 = .ok (.iload 5, 2) := by decide +kernel
theorem dX12_most_30 : decode cX12_most 30 = .ok (.imul, 1) := by decide +kernel
theorem dX12_most_31 : decode cX12_most 31 = .ok (.iload_n 1, 1) := by decide +kernel
theorem dX12_most_32 : decode cX12_most 32 = .ok (.iadd, 1) := by decide +kernel
theorem dX12_most_33 : decode cX12_most 33 = .ok (.laload, 1) := by decide +kernel
theorem dX12_most_34 : decode cX12_most 34 = .ok (.lreturn, 1) := by decide +kernel
theorem dX12_seek_0 : decode cX12_seek 0 = .ok (.aload_n 0, 1) := by decide +kernel
theorem dX12_seek_1 : decode cX12_seek 1 = .ok (.iload_n 1, 1) := by decide +kernel
theorem dX12_seek_2 : decode cX12_seek 2 = .ok (.iload_n 2, 1) := by decide +kernel
theorem dX12_seek_3 : decode cX12_seek 3 = .ok (.iload_n 3, 1) := by decide +kernel
theorem dX12_seek_4 : decode cX12_seek 4 = .ok (.iload 4, 2) := by decide +kernel
theorem dX12_seek_6 : decode cX12_seek 6 = .ok (.invokevirtual 294, 3) := by decide +kernel
theorem dX12_seek_9 : decode cX12_seek 9 = .ok (.ireturn, 1) := by decide +kernel
theorem dX12_both_0 : decode cX12_both 0 = .ok (.aload_n 0, 1) := by decide +kernel
theorem dX12_both_1 : decode cX12_both 1 = .ok (.iload_n 1, 1) := by decide +kernel
theorem dX12_both_2 : decode cX12_both 2 = .ok (.invokevirtual 170, 3) := by decide +kernel
theorem dX12_both_5 : decode cX12_both 5 = .ok (.ifCond .eq 11, 3) := by decide +kernel
theorem dX12_both_8 : decode cX12_both 8 = .ok (.aload_n 0, 1) := by decide +kernel
theorem dX12_both_9 : decode cX12_both 9 = .ok (.iload_n 2, 1) := by decide +kernel
theorem dX12_both_10 : decode cX12_both 10 = .ok (.invokevirtual 170, 3) := by decide +kernel
theorem dX12_both_13 : decode cX12_both 13 = .ok (.ifCond .ne 5, 3) := by decide +kernel
theorem dX12_both_16 : decode cX12_both 16 = .ok (.iconst (-1), 1) := by decide +kernel
theorem dX12_both_17 : decode cX12_both 17 = .ok (.ireturn, 1) := by decide +kernel
theorem dX12_both_18 : decode cX12_both 18 = .ok (.aload_n 0, 1) := by decide +kernel
theorem dX12_both_19 : decode cX12_both 19 = .ok (.invokevirtual 208, 3) := by decide +kernel
theorem dX12_both_22 : decode cX12_both 22 = .ok (.iconst 0, 1) := by decide +kernel
theorem dX12_both_23 : decode cX12_both 23 = .ok (.istore_n 3, 1) := by decide +kernel
theorem dX12_both_24 : decode cX12_both 24 = .ok (.iconst 0, 1) := by decide +kernel
theorem dX12_both_25 : decode cX12_both 25 = .ok (.istore 4, 2) := by decide +kernel
theorem dX12_both_27 : decode cX12_both 27 = .ok (.iload 4, 2) := by decide +kernel
theorem dX12_both_29 : decode cX12_both 29 = .ok (.sipush 256, 3) := by decide +kernel
theorem dX12_both_32 : decode cX12_both 32 = .ok (.if_icmp .ge 284, 3) := by decide +kernel
theorem dX12_both_35 : decode cX12_both 35 = .ok (.aload_n 0, 1) := by decide +kernel
theorem dX12_both_36 : decode cX12_both 36 = .ok (.getfield 95, 3) := by decide +kernel
theorem dX12_both_39 : decode cX12_both 39 = .ok (.iload 4, 2) := by decide +kernel
theorem dX12_both_41 : decode cX12_both 41 = .ok (.baload, 1) := by decide +kernel
theorem dX12_both_42 : decode cX12_both 42 = .ok (.istore 5, 2) := by decide +kernel
theorem dX12_both_44 : decode cX12_both 44 = .ok (.iconst 0, 1) := by decide +kernel
theorem dX12_both_45 : decode cX12_both 45 = .ok (.istore 6, 2) := by decide +kernel
theorem dX12_both_47 : decode cX12_both 47 = .ok (.iload 6, 2) := by decide +kernel
theorem dX12_both_49 : decode cX12_both 49 = .ok (.sipush 256, 3) := by decide +kernel
theorem dX12_both_52 : decode cX12_both 52 = .ok (.if_icmp .ge 245, 3) := by decide +kernel
theorem dX12_both_55 : decode cX12_both 55 = .ok (.iload 5, 2) := by decide +kernel
theorem dX12_both_57 : decode cX12_both 57 = .ok (.ifCond .eq 240, 3) := by decide +kernel
theorem dX12_both_60 : decode cX12_both 60 = .ok (.aload_n 0, 1) := by decide +kernel
theorem dX12_both_61 : decode cX12_both 61 = .ok (.getfield 95, 3) := by decide +kernel
theorem dX12_both_64 : decode cX12_both 64 = .ok (.iload 6, 2) := by decide +kernel
theorem dX12_both_66 : decode cX12_both 66 = .ok (.baload, 1) := by decide +kernel
theorem dX12_both_67 : decode cX12_both 67 = .ok (.ifCond .ne 6, 3) := by decide +kernel
theorem dX12_both_70 : decode cX12_both 70 = .ok (.goto 221, 3) := by decide +kernel
theorem dX12_both_73 : decode cX12_both 73 = .ok (.aload_n 0, 1) := by decide +kernel
theorem dX12_both_74 : decode cX12_both 74 = .ok (.getfield 85, 3) := by decide +kernel
theorem dX12_both_77 : decode cX12_both 77 = .ok (.bipush 10, 2) := by decide +kernel
theorem dX12_both_79 : decode cX12_both 79 = .ok (.iload 6, 2) := by decide +kernel
theorem dX12_both_81 : decode cX12_both 81 = .ok (.imul, 1) := by decide +kernel
theorem dX12_both_82 : decode cX12_both 82 = .ok (.iload_n 1, 1) := by decide +kernel
theorem dX12_both_83 : decode cX12_both 83 = .ok (.iadd, 1) := by decide +kernel
theorem dX12_both_84 : decode cX12_both 84 = .ok (.laload, 1) := by decide +kernel
theorem dX12_both_85 : decode cX12_both 85 = .ok (.aload_n 0, 1) := by decide +kernel
theorem dX12_both_86 : decode cX12_both 86 = .ok (.getfield 85, 3) := by decide +kernel
theorem dX12_both_89 : decode cX12_both 89 = .ok (.bipush 10, 2) := by decide +kernel
theorem dX12_both_91 : decode cX12_both 91 = .ok (.iload 4, 2) := by decide +kernel
theorem dX12_both_93 : decode cX12_both 93 = .ok (.imul, 1) := by decide +kernel
theorem dX12_both_94 : decode cX12_both 94 = .ok (.iload_n 1, 1) := by decide +kernel
theorem dX12_both_95 : decode cX12_both 95 = .ok (.iadd, 1) := by decide +kernel
theorem dX12_both_96 : decode cX12_both 96 = .ok (.laload, 1) := by decide +kernel
theorem dX12_both_97 : decode cX12_both 97 = .ok (.lsub, 1) := by decide +kernel
theorem dX12_both_98 : decode cX12_both 98 = .ok (.lstore 7, 2) := by decide +kernel
theorem dX12_both_100 : decode cX12_both 100 = .ok (.aload_n 0, 1) := by decide +kernel
theorem dX12_both_101 : decode cX12_both 101 = .ok (.getfield 85, 3) := by decide +kernel
theorem dX12_both_104 : decode cX12_both 104 = .ok (.bipush 10, 2) := by decide +kernel
theorem dX12_both_106 : decode cX12_both 106 = .ok (.iload 6, 2) := by decide +kernel
theorem dX12_both_108 : decode cX12_both 108 = .ok (.imul, 1) := by decide +kernel
theorem dX12_both_109 : decode cX12_both 109 = .ok (.iload_n 2, 1) := by decide +kernel
theorem dX12_both_110 : decode cX12_both 110 = .ok (.iadd, 1) := by decide +kernel
theorem dX12_both_111 : decode cX12_both 111 = .ok (.laload, 1) := by decide +kernel
theorem dX12_both_112 : decode cX12_both 112 = .ok (.aload_n 0, 1) := by decide +kernel
theorem dX12_both_113 : decode cX12_both 113 = .ok (.getfield 85, 3) := by decide +kernel
theorem dX12_both_116 : decode cX12_both 116 = .ok (.bipush 10, 2) := by decide +kernel
theorem dX12_both_118 : decode cX12_both 118 = .ok (.iload 4, 2) := by decide +kernel
theorem dX12_both_120 : decode cX12_both 120 = .ok (.imul, 1) := by decide +kernel
theorem dX12_both_121 : decode cX12_both 121 = .ok (.iload_n 2, 1) := by decide +kernel
theorem dX12_both_122 : decode cX12_both 122 = .ok (.iadd, 1) := by decide +kernel
theorem dX12_both_123 : decode cX12_both 123 = .ok (.laload, 1) := by decide +kernel
theorem dX12_both_124 : decode cX12_both 124 = .ok (.lsub, 1) := by decide +kernel
theorem dX12_both_125 : decode cX12_both 125 = .ok (.lstore 9, 2) := by decide +kernel
theorem dX12_both_127 : decode cX12_both 127 = .ok (.aload_n 0, 1) := by decide +kernel
theorem dX12_both_128 : decode cX12_both 128 = .ok (.getfield 85, 3) := by decide +kernel
theorem dX12_both_131 : decode cX12_both 131 = .ok (.bipush 10, 2) := by decide +kernel
theorem dX12_both_133 : decode cX12_both 133 = .ok (.iload 6, 2) := by decide +kernel
theorem dX12_both_135 : decode cX12_both 135 = .ok (.imul, 1) := by decide +kernel
theorem dX12_both_136 : decode cX12_both 136 = .ok (.iload_n 1, 1) := by decide +kernel
theorem dX12_both_137 : decode cX12_both 137 = .ok (.iadd, 1) := by decide +kernel
theorem dX12_both_138 : decode cX12_both 138 = .ok (.laload, 1) := by decide +kernel
theorem dX12_both_139 : decode cX12_both 139 = .ok (.aload_n 0, 1) := by decide +kernel
theorem dX12_both_140 : decode cX12_both 140 = .ok (.getfield 85, 3) := by decide +kernel
theorem dX12_both_143 : decode cX12_both 143 = .ok (.bipush 10, 2) := by decide +kernel
theorem dX12_both_145 : decode cX12_both 145 = .ok (.iload 4, 2) := by decide +kernel
theorem dX12_both_147 : decode cX12_both 147 = .ok (.imul, 1) := by decide +kernel
theorem dX12_both_148 : decode cX12_both 148 = .ok (.iload_n 1, 1) := by decide +kernel
theorem dX12_both_149 : decode cX12_both 149 = .ok (.iadd, 1) := by decide +kernel
theorem dX12_both_150 : decode cX12_both 150 = .ok (.laload, 1) := by decide +kernel
theorem dX12_both_151 : decode cX12_both 151 = .ok (.lcmp, 1) := by decide +kernel
theorem dX12_both_152 : decode cX12_both 152 = .ok (.ifCond .gt 31, 3) := by decide +kernel
theorem dX12_both_155 : decode cX12_both 155 = .ok (.aload_n 0, 1) := by decide +kernel
theorem dX12_both_156 : decode cX12_both 156 = .ok (.getfield 85, 3) := by decide +kernel
theorem dX12_both_159 : decode cX12_both 159 = .ok (.bipush 10, 2) := by decide +kernel
theorem dX12_both_161 : decode cX12_both 161 = .ok (.iload 6, 2) := by decide +kernel
theorem dX12_both_163 : decode cX12_both 163 = .ok (.imul, 1) := by decide +kernel
theorem dX12_both_164 : decode cX12_both 164 = .ok (.iload_n 2, 1) := by decide +kernel
theorem dX12_both_165 : decode cX12_both 165 = .ok (.iadd, 1) := by decide +kernel
theorem dX12_both_166 : decode cX12_both 166 = .ok (.laload, 1) := by decide +kernel
theorem dX12_both_167 : decode cX12_both 167 = .ok (.aload_n 0, 1) := by decide +kernel
theorem dX12_both_168 : decode cX12_both 168 = .ok (.getfield 85, 3) := by decide +kernel
theorem dX12_both_171 : decode cX12_both 171 = .ok (.bipush 10, 2) := by decide +kernel
theorem dX12_both_173 : decode cX12_both 173 = .ok (.iload 4, 2) := by decide +kernel
theorem dX12_both_175 : decode cX12_both 175 = .ok (.imul, 1) := by decide +kernel
theorem dX12_both_176 : decode cX12_both 176 = .ok (.iload_n 2, 1) := by decide +kernel
theorem dX12_both_177 : decode cX12_both 177 = .ok (.iadd, 1) := by decide +kernel
theorem dX12_both_178 : decode cX12_both 178 = .ok (.laload, 1) := by decide +kernel
theorem dX12_both_179 : decode cX12_both 179 = .ok (.lcmp, 1) := by decide +kernel
theorem dX12_both_180 : decode cX12_both 180 = .ok (.ifCond .le 7, 3) := by decide +kernel
theorem dX12_both_183 : decode cX12_both 183 = .ok (.iconst 1, 1) := by decide +kernel
theorem dX12_both_184 : decode cX12_both 184 = .ok (.goto 4, 3) := by decide +kernel
theorem dX12_both_187 : decode cX12_both 187 = .ok (.iconst 0, 1) := by decide +kernel
theorem dX12_both_188 : decode cX12_both 188 = .ok (.istore 11, 2) := by decide +kernel
theorem dX12_both_190 : decode cX12_both 190 = .ok (.aload_n 0, 1) := by decide +kernel
theorem dX12_both_191 : decode cX12_both 191 = .ok (.getfield 85, 3) := by decide +kernel
theorem dX12_both_194 : decode cX12_both 194 = .ok (.bipush 10, 2) := by decide +kernel
theorem dX12_both_196 : decode cX12_both 196 = .ok (.iload 6, 2) := by decide +kernel
theorem dX12_both_198 : decode cX12_both 198 = .ok (.imul, 1) := by decide +kernel
theorem dX12_both_199 : decode cX12_both 199 = .ok (.iload_n 1, 1) := by decide +kernel
theorem dX12_both_200 : decode cX12_both 200 = .ok (.iadd, 1) := by decide +kernel
theorem dX12_both_201 : decode cX12_both 201 = .ok (.laload, 1) := by decide +kernel
theorem dX12_both_202 : decode cX12_both 202 = .ok (.aload_n 0, 1) := by decide +kernel
theorem dX12_both_203 : decode cX12_both 203 = .ok (.getfield 85, 3) := by decide +kernel
theorem dX12_both_206 : decode cX12_both 206 = .ok (.bipush 10, 2) := by decide +kernel
theorem dX12_both_208 : decode cX12_both 208 = .ok (.iload 4, 2) := by decide +kernel
theorem dX12_both_210 : decode cX12_both 210 = .ok (.imul, 1) := by decide +kernel
theorem dX12_both_211 : decode cX12_both 211 = .ok (.iload_n 1, 1) := by decide +kernel
theorem dX12_both_212 : decode cX12_both 212 = .ok (.iadd, 1) := by decide +kernel
theorem dX12_both_213 : decode cX12_both 213 = .ok (.laload, 1) := by decide +kernel
theorem dX12_both_214 : decode cX12_both 214 = .ok (.lcmp, 1) := by decide +kernel
theorem dX12_both_215 : decode cX12_both 215 = .ok (.ifCond .lt 31, 3) := by decide +kernel
theorem dX12_both_218 : decode cX12_both 218 = .ok (.aload_n 0, 1) := by decide +kernel
theorem dX12_both_219 : decode cX12_both 219 = .ok (.getfield 85, 3) := by decide +kernel
theorem dX12_both_222 : decode cX12_both 222 = .ok (.bipush 10, 2) := by decide +kernel
theorem dX12_both_224 : decode cX12_both 224 = .ok (.iload 6, 2) := by decide +kernel
theorem dX12_both_226 : decode cX12_both 226 = .ok (.imul, 1) := by decide +kernel
theorem dX12_both_227 : decode cX12_both 227 = .ok (.iload_n 2, 1) := by decide +kernel
theorem dX12_both_228 : decode cX12_both 228 = .ok (.iadd, 1) := by decide +kernel
theorem dX12_both_229 : decode cX12_both 229 = .ok (.laload, 1) := by decide +kernel
theorem dX12_both_230 : decode cX12_both 230 = .ok (.aload_n 0, 1) := by decide +kernel
theorem dX12_both_231 : decode cX12_both 231 = .ok (.getfield 85, 3) := by decide +kernel
theorem dX12_both_234 : decode cX12_both 234 = .ok (.bipush 10, 2) := by decide +kernel
theorem dX12_both_236 : decode cX12_both 236 = .ok (.iload 4, 2) := by decide +kernel
theorem dX12_both_238 : decode cX12_both 238 = .ok (.imul, 1) := by decide +kernel
theorem dX12_both_239 : decode cX12_both 239 = .ok (.iload_n 2, 1) := by decide +kernel
theorem dX12_both_240 : decode cX12_both 240 = .ok (.iadd, 1) := by decide +kernel
theorem dX12_both_241 : decode cX12_both 241 = .ok (.laload, 1) := by decide +kernel
theorem dX12_both_242 : decode cX12_both 242 = .ok (.lcmp, 1) := by decide +kernel
theorem dX12_both_243 : decode cX12_both 243 = .ok (.ifCond .ge 7, 3) := by decide +kernel
theorem dX12_both_246 : decode cX12_both 246 = .ok (.iconst 1, 1) := by decide +kernel
theorem dX12_both_247 : decode cX12_both 247 = .ok (.goto 4, 3) := by decide +kernel
theorem dX12_both_250 : decode cX12_both 250 = .ok (.iconst 0, 1) := by decide +kernel
theorem dX12_both_251 : decode cX12_both 251 = .ok (.istore 12, 2) := by decide +kernel
theorem dX12_both_253 : decode cX12_both 253 = .ok (.iload 11, 2) := by decide +kernel
theorem dX12_both_255 : decode cX12_both 255 = .ok (.ifCond .eq 8, 3) := by decide +kernel
theorem dX12_both_258 : decode cX12_both 258 = .ok (.iload 12, 2) := by decide +kernel
theorem dX12_both_260 : decode cX12_both 260 = .ok (.ifCond .eq 28, 3) := by decide +kernel
theorem dX12_both_263 : decode cX12_both 263 = .ok (.lload 7, 2) := by decide +kernel
theorem dX12_both_265 : decode cX12_both 265 = .ok (.lconst 0, 1) := by decide +kernel
theorem dX12_both_266 : decode cX12_both 266 = .ok (.lcmp, 1) := by decide +kernel
theorem dX12_both_267 : decode cX12_both 267 = .ok (.ifCond .ne 17, 3) := by decide +kernel
theorem dX12_both_270 : decode cX12_both 270 = .ok (.lload 9, 2) := by decide +kernel
theorem dX12_both_272 : decode cX12_both 272 = .ok (.lconst 0, 1) := by decide +kernel
theorem dX12_both_273 : decode cX12_both 273 = .ok (.lcmp, 1) := by decide +kernel
theorem dX12_both_274 : decode cX12_both 274 = .ok (.ifCond .ne 10, 3) := by decide +kernel
theorem dX12_both_277 : decode cX12_both 277 = .ok (.iload 6, 2) := by decide +kernel
theorem dX12_both_279 : decode cX12_both 279 = .ok (.iload 4, 2) := by decide +kernel
theorem dX12_both_281 : decode cX12_both 281 = .ok (.if_icmp .lt 7, 3) := by decide +kernel
theorem dX12_both_284 : decode cX12_both 284 = .ok (.iconst 1, 1) := by decide +kernel
theorem dX12_both_285 : decode cX12_both 285 = .ok (.goto 4, 3) := by decide +kernel
theorem dX12_both_288 : decode cX12_both 288 = .ok (.iconst 0, 1) := by decide +kernel
theorem dX12_both_289 : decode cX12_both 289 = .ok (.istore 5, 2) := by decide +kernel
theorem dX12_both_291 : decode cX12_both 291 = .ok (.iinc 6 1, 3) := by decide +kernel
theorem dX12_both_294 : decode cX12_both 294 = .ok (.goto (-247), 3) := by decide +kernel
theorem dX12_both_297 : decode cX12_both 297 = .ok (.iload_n 3, 1) := by decide +kernel
theorem dX12_both_298 : decode cX12_both 298 = .ok (.iload 5, 2) := by decide +kernel
theorem dX12_both_300 : decode cX12_both 300 = .ok (.ifCond .eq 7, 3) := by decide +kernel
theorem dX12_both_303 : decode cX12_both 303 = .ok (.iconst 1, 1) := by decide +kernel
theorem dX12_both_304 : decode cX12_both 304 = .ok (.goto 4, 3) := by decide +kernel
theorem dX12_both_307 : decode cX12_both 307 = .ok (.iconst 0, 1) := by decide +kernel
theorem dX12_both_308 : decode cX12_both 308 = .ok (.iadd, 1) := by decide +kernel
theorem dX12_both_309 : decode cX12_both 309 = .ok (.istore_n 3, 1) := by decide +kernel
theorem dX12_both_310 : decode cX12_both 310 = .ok (.iinc 4 1, 3) := by decide +kernel
theorem dX12_both_313 : decode cX12_both 313 = .ok (.goto (-286), 3) := by decide +kernel
theorem dX12_both_316 : decode cX12_both 316 = .ok (.iload_n 3, 1) := by decide +kernel
theorem dX12_both_317 : decode cX12_both 317 = .ok (.ireturn, 1) := by decide +kernel
theorem dX12_way_0 : decode cX12_way 0 = .ok (.aload_n 0, 1) := by decide +kernel
theorem dX12_way_1 : decode cX12_way 1 = .ok (.iload_n 1, 1) := by decide +kernel
theorem dX12_way_2 : decode cX12_way 2 = .ok (.invokevirtual 287, 3) := by decide +kernel
theorem dX12_way_5 : decode cX12_way 5 = .ok (.ifCond .eq 19, 3) := by decide +kernel
theorem dX12_way_8 : decode cX12_way 8 = .ok (.iload_n 2, 1) := by decide +kernel
theorem dX12_way_9 : decode cX12_way 9 = .ok (.i2l, 1) := by decide +kernel
theorem dX12_way_10 : decode cX12_way 10 = .ok (.lconst 0, 1) := by decide +kernel
theorem dX12_way_11 : decode cX12_way 11 = .ok (.iload_n 1, 1) := by decide +kernel
theorem dX12_way_12 : decode cX12_way 12 = .ok (.invokestatic 203, 3) := by decide +kernel
theorem dX12_way_15 : decode cX12_way 15 = .ok (.iconst 1, 1) := by decide +kernel
theorem dX12_way_16 : decode cX12_way 16 = .ok (.isub, 1) := by decide +kernel
theorem dX12_way_17 : decode cX12_way 17 = .ok (.i2l, 1) := by decide +kernel
theorem dX12_way_18 : decode cX12_way 18 = .ok (.invokestatic 135, 3) := by decide +kernel
theorem dX12_way_21 : decode cX12_way 21 = .ok (.ifCond .ne 5, 3) := by decide +kernel
theorem dX12_way_24 : decode cX12_way 24 = .ok (.iconst (-1), 1) := by decide +kernel
theorem dX12_way_25 : decode cX12_way 25 = .ok (.ireturn, 1) := by decide +kernel
theorem dX12_way_26 : decode cX12_way 26 = .ok (.aload_n 0, 1) := by decide +kernel
theorem dX12_way_27 : decode cX12_way 27 = .ok (.invokevirtual 208, 3) := by decide +kernel
theorem dX12_way_30 : decode cX12_way 30 = .ok (.sipush 255, 3) := by decide +kernel
theorem dX12_way_33 : decode cX12_way 33 = .ok (.istore_n 3, 1) := by decide +kernel
theorem dX12_way_34 : decode cX12_way 34 = .ok (.iload_n 3, 1) := by decide +kernel
theorem dX12_way_35 : decode cX12_way 35 = .ok (.ifCond .lt 123, 3) := by decide +kernel
theorem dX12_way_38 : decode cX12_way 38 = .ok (.aload_n 0, 1) := by decide +kernel
theorem dX12_way_39 : decode cX12_way 39 = .ok (.getfield 108, 3) := by decide +kernel
theorem dX12_way_42 : decode cX12_way 42 = .ok (.iload_n 3, 1) := by decide +kernel
theorem dX12_way_43 : decode cX12_way 43 = .ok (.iload_n 3, 1) := by decide +kernel
theorem dX12_way_44 : decode cX12_way 44 = .ok (.iload_n 1, 1) := by decide +kernel
theorem dX12_way_45 : decode cX12_way 45 = .ok (.if_icmp .ne 16, 3) := by decide +kernel
theorem dX12_way_48 : decode cX12_way 48 = .ok (.aload_n 0, 1) := by decide +kernel
theorem dX12_way_49 : decode cX12_way 49 = .ok (.getfield 95, 3) := by decide +kernel
theorem dX12_way_52 : decode cX12_way 52 = .ok (.iload_n 3, 1) := by decide +kernel
theorem dX12_way_53 : decode cX12_way 53 = .ok (.baload, 1) := by decide +kernel
theorem dX12_way_54 : decode cX12_way 54 = .ok (.ifCond .eq 7, 3) := by decide +kernel
theorem dX12_way_57 : decode cX12_way 57 = .ok (.iconst 1, 1) := by decide +kernel
theorem dX12_way_58 : decode cX12_way 58 = .ok (.goto 4, 3) := by decide +kernel
theorem dX12_way_61 : decode cX12_way 61 = .ok (.iconst 0, 1) := by decide +kernel
theorem dX12_way_62 : decode cX12_way 62 = .ok (.bastore, 1) := by decide +kernel
theorem dX12_way_63 : decode cX12_way 63 = .ok (.iload_n 3, 1) := by decide +kernel
theorem dX12_way_64 : decode cX12_way 64 = .ok (.iload_n 1, 1) := by decide +kernel
theorem dX12_way_65 : decode cX12_way 65 = .ok (.iconst (-1), 1) := by decide +kernel
theorem dX12_way_66 : decode cX12_way 66 = .ok (.ixor, 1) := by decide +kernel
theorem dX12_way_67 : decode cX12_way 67 = .ok (.iand, 1) := by decide +kernel
theorem dX12_way_68 : decode cX12_way 68 = .ok (.ifCond .ne 84, 3) := by decide +kernel
theorem dX12_way_71 : decode cX12_way 71 = .ok (.aload_n 0, 1) := by decide +kernel
theorem dX12_way_72 : decode cX12_way 72 = .ok (.getfield 95, 3) := by decide +kernel
theorem dX12_way_75 : decode cX12_way 75 = .ok (.iload_n 3, 1) := by decide +kernel
theorem dX12_way_76 : decode cX12_way 76 = .ok (.baload, 1) := by decide +kernel
theorem dX12_way_77 : decode cX12_way 77 = .ok (.ifCond .ne 6, 3) := by decide +kernel
theorem dX12_way_80 : decode cX12_way 80 = .ok (.goto 72, 3) := by decide +kernel
theorem dX12_way_83 : decode cX12_way 83 = .ok (.iconst 0, 1) := by decide +kernel
theorem dX12_way_84 : decode cX12_way 84 = .ok (.istore 4, 2) := by decide +kernel
theorem dX12_way_86 : decode cX12_way 86 = .ok (.iload 4, 2) := by decide +kernel
theorem dX12_way_88 : decode cX12_way 88 = .ok (.bipush 8, 2) := by decide +kernel
theorem dX12_way_90 : decode cX12_way 90 = .ok (.if_icmp .ge 62, 3) := by decide +kernel
theorem dX12_way_93 : decode cX12_way 93 = .ok (.aload_n 0, 1) := by decide +kernel
theorem dX12_way_94 : decode cX12_way 94 = .ok (.getfield 108, 3) := by decide +kernel
theorem dX12_way_97 : decode cX12_way 97 = .ok (.iload_n 3, 1) := by decide +kernel
theorem dX12_way_98 : decode cX12_way 98 = .ok (.aload_n 0, 1) := by decide +kernel
theorem dX12_way_99 : decode cX12_way 99 = .ok (.getfield 108, 3) := by decide +kernel
theorem dX12_way_102 : decode cX12_way 102 = .ok (.iload_n 3, 1) := by decide +kernel
theorem dX12_way_103 : decode cX12_way 103 = .ok (.baload, 1) := by decide +kernel
theorem dX12_way_104 : decode cX12_way 104 = .ok (.ifCond .ne 36, 3) := by decide +kernel
theorem dX12_way_107 : decode cX12_way 107 = .ok (.iload_n 1, 1) := by decide +kernel
theorem dX12_way_108 : decode cX12_way 108 = .ok (.iload 4, 2) := by decide +kernel
theorem dX12_way_110 : decode cX12_way 110 = .ok (.ishr, 1) := by decide +kernel
theorem dX12_way_111 : decode cX12_way 111 = .ok (.iconst 1, 1) := by decide +kernel
theorem dX12_way_112 : decode cX12_way 112 = .ok (.iand, 1) := by decide +kernel
theorem dX12_way_113 : decode cX12_way 113 = .ok (.iconst 1, 1) := by decide +kernel
theorem dX12_way_114 : decode cX12_way 114 = .ok (.if_icmp .ne 30, 3) := by decide +kernel
theorem dX12_way_117 : decode cX12_way 117 = .ok (.iload_n 3, 1) := by decide +kernel
theorem dX12_way_118 : decode cX12_way 118 = .ok (.iload 4, 2) := by decide +kernel
theorem dX12_way_120 : decode cX12_way 120 = .ok (.ishr, 1) := by decide +kernel
theorem dX12_way_121 : decode cX12_way 121 = .ok (.iconst 1, 1) := by decide +kernel
theorem dX12_way_122 : decode cX12_way 122 = .ok (.iand, 1) := by decide +kernel
theorem dX12_way_123 : decode cX12_way 123 = .ok (.ifCond .ne 21, 3) := by decide +kernel
theorem dX12_way_126 : decode cX12_way 126 = .ok (.aload_n 0, 1) := by decide +kernel
theorem dX12_way_127 : decode cX12_way 127 = .ok (.getfield 108, 3) := by decide +kernel
theorem dX12_way_130 : decode cX12_way 130 = .ok (.iload_n 3, 1) := by decide +kernel
theorem dX12_way_131 : decode cX12_way 131 = .ok (.iconst 1, 1) := by decide +kernel
theorem dX12_way_132 : decode cX12_way 132 = .ok (.iload 4, 2) := by decide +kernel
theorem dX12_way_134 : decode cX12_way 134 = .ok (.ishl, 1) := by decide +kernel
theorem dX12_way_135 : decode cX12_way 135 = .ok (.ior, 1) := by decide +kernel
theorem dX12_way_136 : decode cX12_way 136 = .ok (.baload, 1) := by decide +kernel
theorem dX12_way_137 : decode cX12_way 137 = .ok (.ifCond .eq 7, 3) := by decide +kernel
theorem dX12_way_140 : decode cX12_way 140 = .ok (.iconst 1, 1) := by decide +kernel
theorem dX12_way_141 : decode cX12_way 141 = .ok (.goto 4, 3) := by decide +kernel
theorem dX12_way_144 : decode cX12_way 144 = .ok (.iconst 0, 1) := by decide +kernel
theorem dX12_way_145 : decode cX12_way 145 = .ok (.bastore, 1) := by decide +kernel
theorem dX12_way_146 : decode cX12_way 146 = .ok (.iinc 4 1, 3) := by decide +kernel
theorem dX12_way_149 : decode cX12_way 149 = .ok (.goto (-63), 3) := by decide +kernel
theorem dX12_way_152 : decode cX12_way 152 = .ok (.iinc 3 (-1), 3) := by decide +kernel
theorem dX12_way_155 : decode cX12_way 155 = .ok (.goto (-121), 3) := by decide +kernel
theorem dX12_way_158 : decode cX12_way 158 = .ok (.aload_n 0, 1) := by decide +kernel
theorem dX12_way_159 : decode cX12_way 159 = .ok (.getfield 108, 3) := by decide +kernel
theorem dX12_way_162 : decode cX12_way 162 = .ok (.iconst 0, 1) := by decide +kernel
theorem dX12_way_163 : decode cX12_way 163 = .ok (.baload, 1) := by decide +kernel
theorem dX12_way_164 : decode cX12_way 164 = .ok (.ifCond .ne 5, 3) := by decide +kernel
theorem dX12_way_167 : decode cX12_way 167 = .ok (.iconst (-1), 1) := by decide +kernel
theorem dX12_way_168 : decode cX12_way 168 = .ok (.ireturn, 1) := by decide +kernel
theorem dX12_way_169 : decode cX12_way 169 = .ok (.iconst 0, 1) := by decide +kernel
theorem dX12_way_170 : decode cX12_way 170 = .ok (.istore_n 3, 1) := by decide +kernel
theorem dX12_way_171 : decode cX12_way 171 = .ok (.iconst (-1), 1) := by decide +kernel
theorem dX12_way_172 : decode cX12_way 172 = .ok (.istore 4, 2) := by decide +kernel
theorem dX12_way_174 : decode cX12_way 174 = .ok (.iconst 0, 1) := by decide +kernel
theorem dX12_way_175 : decode cX12_way 175 = .ok (.istore 5, 2) := by decide +kernel
theorem dX12_way_177 : decode cX12_way 177 = .ok (.iload 5, 2) := by decide +kernel
theorem dX12_way_179 : decode cX12_way 179 = .ok (.iload_n 2, 1) := by decide +kernel
theorem dX12_way_180 : decode cX12_way 180 = .ok (.if_icmp .gt 62, 3) := by decide +kernel
theorem dX12_way_183 : decode cX12_way 183 = .ok (.iconst 0, 1) := by decide +kernel
theorem dX12_way_184 : decode cX12_way 184 = .ok (.istore 6, 2) := by decide +kernel
theorem dX12_way_186 : decode cX12_way 186 = .ok (.iload_n 1, 1) := by decide +kernel
theorem dX12_way_187 : decode cX12_way 187 = .ok (.iload 6, 2) := by decide +kernel
theorem dX12_way_189 : decode cX12_way 189 = .ok (.ishr, 1) := by decide +kernel
theorem dX12_way_190 : decode cX12_way 190 = .ok (.iconst 1, 1) := by decide +kernel
theorem dX12_way_191 : decode cX12_way 191 = .ok (.iand, 1) := by decide +kernel
theorem dX12_way_192 : decode cX12_way 192 = .ok (.ifCond .eq 27, 3) := by decide +kernel
theorem dX12_way_195 : decode cX12_way 195 = .ok (.iload_n 3, 1) := by decide +kernel
theorem dX12_way_196 : decode cX12_way 196 = .ok (.iload 6, 2) := by decide +kernel
theorem dX12_way_198 : decode cX12_way 198 = .ok (.ishr, 1) := by decide +kernel
theorem dX12_way_199 : decode cX12_way 199 = .ok (.iconst 1, 1) := by decide +kernel
theorem dX12_way_200 : decode cX12_way 200 = .ok (.iand, 1) := by decide +kernel
theorem dX12_way_201 : decode cX12_way 201 = .ok (.iconst 1, 1) := by decide +kernel
theorem dX12_way_202 : decode cX12_way 202 = .ok (.if_icmp .eq 17, 3) := by decide +kernel
theorem dX12_way_205 : decode cX12_way 205 = .ok (.aload_n 0, 1) := by decide +kernel
theorem dX12_way_206 : decode cX12_way 206 = .ok (.getfield 108, 3) := by decide +kernel
theorem dX12_way_209 : decode cX12_way 209 = .ok (.iload_n 3, 1) := by decide +kernel
theorem dX12_way_210 : decode cX12_way 210 = .ok (.iconst 1, 1) := by decide +kernel
theorem dX12_way_211 : decode cX12_way 211 = .ok (.iload 6, 2) := by decide +kernel
theorem dX12_way_213 : decode cX12_way 213 = .ok (.ishl, 1) := by decide +kernel
theorem dX12_way_214 : decode cX12_way 214 = .ok (.ior, 1) := by decide +kernel
theorem dX12_way_215 : decode cX12_way 215 = .ok (.baload, 1) := by decide +kernel
theorem dX12_way_216 : decode cX12_way 216 = .ok (.ifCond .ne 9, 3) := by decide +kernel
theorem dX12_way_219 : decode cX12_way 219 = .ok (.iinc 6 1, 3) := by decide +kernel
theorem dX12_way_222 : decode cX12_way 222 = .ok (.goto (-36), 3) := by decide +kernel
theorem dX12_way_225 : decode cX12_way 225 = .ok (.iload_n 3, 1) := by decide +kernel
theorem dX12_way_226 : decode cX12_way 226 = .ok (.iconst 1, 1) := by decide +kernel
theorem dX12_way_227 : decode cX12_way 227 = .ok (.iload 6, 2) := by decide +kernel
theorem dX12_way_229 : decode cX12_way 229 = .ok (.ishl, 1) := by decide +kernel
theorem dX12_way_230 : decode cX12_way 230 = .ok (.ior, 1) := by decide +kernel
theorem dX12_way_231 : decode cX12_way 231 = .ok (.istore_n 3, 1) := by decide +kernel
theorem dX12_way_232 : decode cX12_way 232 = .ok (.iload 6, 2) := by decide +kernel
theorem dX12_way_234 : decode cX12_way 234 = .ok (.istore 4, 2) := by decide +kernel
theorem dX12_way_236 : decode cX12_way 236 = .ok (.iinc 5 1, 3) := by decide +kernel
theorem dX12_way_239 : decode cX12_way 239 = .ok (.goto (-62), 3) := by decide +kernel
theorem dX12_way_242 : decode cX12_way 242 = .ok (.iload 4, 2) := by decide +kernel
theorem dX12_way_244 : decode cX12_way 244 = .ok (.ireturn, 1) := by decide +kernel
theorem dX12_divisor_0 : decode cX12_divisor 0 = .ok (.lload_n 0, 1) := by decide +kernel
theorem dX12_divisor_1 : decode cX12_divisor 1 = .ok (.lconst 0, 1) := by decide +kernel
theorem dX12_divisor_2 : decode cX12_divisor 2 = .ok (.lcmp, 1) := by decide +kernel
theorem dX12_divisor_3 : decode cX12_divisor 3 = .ok (.ifCond .ge 8, 3) := by decide +kernel
theorem dX12_divisor_6 : decode cX12_divisor 6 = .ok (.lload_n 0, 1) := by decide +kernel
theorem dX12_divisor_7 : decode cX12_divisor 7 = .ok (.lneg, 1) := by decide +kernel
theorem dX12_divisor_8 : decode cX12_divisor 8 = .ok (.goto 4, 3) := by decide +kernel
theorem dX12_divisor_11 : decode cX12_divisor 11 = .ok (.lload_n 0, 1) := by decide +kernel
theorem dX12_divisor_12 : decode cX12_divisor 12 = .ok (.lstore 4, 2) := by decide +kernel
theorem dX12_divisor_14 : decode cX12_divisor 14 = .ok (.lload_n 2, 1) := by decide +kernel
theorem dX12_divisor_15 : decode cX12_divisor 15 = .ok (.lstore 6, 2) := by decide +kernel
theorem dX12_divisor_17 : decode cX12_divisor 17 = .ok (.lload 6, 2) := by decide +kernel
theorem dX12_divisor_19 : decode cX12_divisor 19 = .ok (.lconst 0, 1) := by decide +kernel
theorem dX12_divisor_20 : decode cX12_divisor 20 = .ok (.lcmp, 1) := by decide +kernel
theorem dX12_divisor_21 : decode cX12_divisor 21 = .ok (.ifCond .eq 21, 3) := by decide +kernel
theorem dX12_divisor_24 : decode cX12_divisor 24 = .ok (.lload 4, 2) := by decide +kernel
theorem dX12_divisor_26 : decode cX12_divisor 26 = .ok (.lload 6, 2) := by decide +kernel
theorem dX12_divisor_28 : decode cX12_divisor 28 = .ok (.lrem, 1) := by decide +kernel
theorem dX12_divisor_29 : decode cX12_divisor 29 = .ok (.lstore 8, 2) := by decide +kernel
theorem dX12_divisor_31 : decode cX12_divisor 31 = .ok (.lload 6, 2) := by decide +kernel
theorem dX12_divisor_33 : decode cX12_divisor 33 = .ok (.lstore 4, 2) := by decide +kernel
theorem dX12_divisor_35 : decode cX12_divisor 35 = .ok (.lload 8, 2) := by decide +kernel
theorem dX12_divisor_37 : decode cX12_divisor 37 = .ok (.lstore 6, 2) := by decide +kernel
theorem dX12_divisor_39 : decode cX12_divisor 39 = .ok (.goto (-22), 3) := by decide +kernel
theorem dX12_divisor_42 : decode cX12_divisor 42 = .ok (.lload 4, 2) := by decide +kernel
theorem dX12_divisor_44 : decode cX12_divisor 44 = .ok (.lreturn, 1) := by decide +kernel
theorem dX12_dice_0 : decode cX12_dice 0 = .ok (.aload_n 0, 1) := by decide +kernel
theorem dX12_dice_1 : decode cX12_dice 1 = .ok (.iload_n 1, 1) := by decide +kernel
theorem dX12_dice_2 : decode cX12_dice 2 = .ok (.invokevirtual 170, 3) := by decide +kernel
theorem dX12_dice_5 : decode cX12_dice 5 = .ok (.ifCond .eq 25, 3) := by decide +kernel
theorem dX12_dice_8 : decode cX12_dice 8 = .ok (.aload_n 0, 1) := by decide +kernel
theorem dX12_dice_9 : decode cX12_dice 9 = .ok (.getfield 7, 3) := by decide +kernel
theorem dX12_dice_12 : decode cX12_dice 12 = .ok (.iload_n 1, 1) := by decide +kernel
theorem dX12_dice_13 : decode cX12_dice 13 = .ok (.iaload, 1) := by decide +kernel
theorem dX12_dice_14 : decode cX12_dice 14 = .ok (.iconst 3, 1) := by decide +kernel
theorem dX12_dice_15 : decode cX12_dice 15 = .ok (.if_icmp .ne 15, 3) := by decide +kernel
theorem dX12_dice_18 : decode cX12_dice 18 = .ok (.iload_n 2, 1) := by decide +kernel
theorem dX12_dice_19 : decode cX12_dice 19 = .ok (.i2l, 1) := by decide +kernel
theorem dX12_dice_20 : decode cX12_dice 20 = .ok (.lconst 0, 1) := by decide +kernel
theorem dX12_dice_21 : decode cX12_dice 21 = .ok (.ldc2_w 298, 3) := by decide +kernel
theorem dX12_dice_24 : decode cX12_dice 24 = .ok (.invokestatic 135, 3) := by decide +kernel
theorem dX12_dice_27 : decode cX12_dice 27 = .ok (.ifCond .ne 7, 3) := by decide +kernel
theorem dX12_dice_30 : decode cX12_dice 30 = .ok (.ldc2_w 290, 3) := by decide +kernel
theorem dX12_dice_33 : decode cX12_dice 33 = .ok (.lreturn, 1) := by decide +kernel
theorem dX12_dice_34 : decode cX12_dice 34 = .ok (.aload_n 0, 1) := by decide +kernel
theorem dX12_dice_35 : decode cX12_dice 35 = .ok (.invokevirtual 208, 3) := by decide +kernel
theorem dX12_dice_38 : decode cX12_dice 38 = .ok (.aload_n 0, 1) := by decide +kernel
theorem dX12_dice_39 : decode cX12_dice 39 = .ok (.getfield 85, 3) := by decide +kernel
theorem dX12_dice_42 : decode cX12_dice 42 = .ok (.bipush 10, 2) := by decide +kernel
theorem dX12_dice_44 : decode cX12_dice 44 = .ok (.aload_n 0, 1) := by decide +kernel
theorem dX12_dice_45 : decode cX12_dice 45 = .ok (.getfield 70, 3) := by decide +kernel
theorem dX12_dice_48 : decode cX12_dice 48 = .ok (.iconst 3, 1) := by decide +kernel
theorem dX12_dice_49 : decode cX12_dice 49 = .ok (.iaload, 1) := by decide +kernel
theorem dX12_dice_50 : decode cX12_dice 50 = .ok (.imul, 1) := by decide +kernel
theorem dX12_dice_51 : decode cX12_dice 51 = .ok (.iload_n 1, 1) := by decide +kernel
theorem dX12_dice_52 : decode cX12_dice 52 = .ok (.iadd, 1) := by decide +kernel
theorem dX12_dice_53 : decode cX12_dice 53 = .ok (.laload, 1) := by decide +kernel
theorem dX12_dice_54 : decode cX12_dice 54 = .ok (.lstore_n 3, 1) := by decide +kernel
theorem dX12_dice_55 : decode cX12_dice 55 = .ok (.iload_n 2, 1) := by decide +kernel
theorem dX12_dice_56 : decode cX12_dice 56 = .ok (.ifCond .ne 13, 3) := by decide +kernel
theorem dX12_dice_59 : decode cX12_dice 59 = .ok (.aload_n 0, 1) := by decide +kernel
theorem dX12_dice_60 : decode cX12_dice 60 = .ok (.getfield 16, 3) := by decide +kernel
theorem dX12_dice_63 : decode cX12_dice 63 = .ok (.iload_n 1, 1) := by decide +kernel
theorem dX12_dice_64 : decode cX12_dice 64 = .ok (.iaload, 1) := by decide +kernel
theorem dX12_dice_65 : decode cX12_dice 65 = .ok (.i2l, 1) := by decide +kernel
theorem dX12_dice_66 : decode cX12_dice 66 = .ok (.lload_n 3, 1) := by decide +kernel
theorem dX12_dice_67 : decode cX12_dice 67 = .ok (.ladd, 1) := by decide +kernel
theorem dX12_dice_68 : decode cX12_dice 68 = .ok (.lreturn, 1) := by decide +kernel
theorem dX12_dice_69 : decode cX12_dice 69 = .ok (.iload_n 2, 1) := by decide +kernel
theorem dX12_dice_70 : decode cX12_dice 70 = .ok (.iconst 1, 1) := by decide +kernel
theorem dX12_dice_71 : decode cX12_dice 71 = .ok (.if_icmp .ne 20, 3) := by decide +kernel
theorem dX12_dice_74 : decode cX12_dice 74 = .ok (.aload_n 0, 1) := by decide +kernel
theorem dX12_dice_75 : decode cX12_dice 75 = .ok (.getfield 16, 3) := by decide +kernel
theorem dX12_dice_78 : decode cX12_dice 78 = .ok (.iload_n 1, 1) := by decide +kernel
theorem dX12_dice_79 : decode cX12_dice 79 = .ok (.iaload, 1) := by decide +kernel
theorem dX12_dice_80 : decode cX12_dice 80 = .ok (.aload_n 0, 1) := by decide +kernel
theorem dX12_dice_81 : decode cX12_dice 81 = .ok (.getfield 19, 3) := by decide +kernel
theorem dX12_dice_84 : decode cX12_dice 84 = .ok (.iload_n 1, 1) := by decide +kernel
theorem dX12_dice_85 : decode cX12_dice 85 = .ok (.iaload, 1) := by decide +kernel
theorem dX12_dice_86 : decode cX12_dice 86 = .ok (.imul, 1) := by decide +kernel
theorem dX12_dice_87 : decode cX12_dice 87 = .ok (.i2l, 1) := by decide +kernel
theorem dX12_dice_88 : decode cX12_dice 88 = .ok (.lload_n 3, 1) := by decide +kernel
theorem dX12_dice_89 : decode cX12_dice 89 = .ok (.ladd, 1) := by decide +kernel
theorem dX12_dice_90 : decode cX12_dice 90 = .ok (.lreturn, 1) := by decide +kernel
theorem dX12_dice_91 : decode cX12_dice 91 = .ok (.aload_n 0, 1) := by decide +kernel
theorem dX12_dice_92 : decode cX12_dice 92 = .ok (.getfield 16, 3) := by decide +kernel
theorem dX12_dice_95 : decode cX12_dice 95 = .ok (.iload_n 1, 1) := by decide +kernel
theorem dX12_dice_96 : decode cX12_dice 96 = .ok (.iaload, 1) := by decide +kernel
theorem dX12_dice_97 : decode cX12_dice 97 = .ok (.aload_n 0, 1) := by decide +kernel
theorem dX12_dice_98 : decode cX12_dice 98 = .ok (.getfield 19, 3) := by decide +kernel
theorem dX12_dice_101 : decode cX12_dice 101 = .ok (.iload_n 1, 1) := by decide +kernel
theorem dX12_dice_102 : decode cX12_dice 102 = .ok (.iaload, 1) := by decide +kernel
theorem dX12_dice_103 : decode cX12_dice 103 = .ok (.iconst 1, 1) := by decide +kernel
theorem dX12_dice_104 : decode cX12_dice 104 = .ok (.iadd, 1) := by decide +kernel
theorem dX12_dice_105 : decode cX12_dice 105 = .ok (.imul, 1) := by decide +kernel
theorem dX12_dice_106 : decode cX12_dice 106 = .ok (.i2l, 1) := by decide +kernel
theorem dX12_dice_107 : decode cX12_dice 107 = .ok (.ldc2_w 145, 3) := by decide +kernel
theorem dX12_dice_110 : decode cX12_dice 110 = .ok (.lload_n 3, 1) := by decide +kernel
theorem dX12_dice_111 : decode cX12_dice 111 = .ok (.lmul, 1) := by decide +kernel
theorem dX12_dice_112 : decode cX12_dice 112 = .ok (.ladd, 1) := by decide +kernel
theorem dX12_dice_113 : decode cX12_dice 113 = .ok (.lstore 5, 2) := by decide +kernel
theorem dX12_dice_115 : decode cX12_dice 115 = .ok (.lload 5, 2) := by decide +kernel
theorem dX12_dice_117 : decode cX12_dice 117 = .ok (.ldc2_w 145, 3) := by decide +kernel
theorem dX12_dice_120 : decode cX12_dice 120 = .ok (.lrem, 1) := by decide +kernel
theorem dX12_dice_121 : decode cX12_dice 121 = .ok (.lconst 0, 1) := by decide +kernel
theorem dX12_dice_122 : decode cX12_dice 122 = .ok (.lcmp, 1) := by decide +kernel
theorem dX12_dice_123 : decode cX12_dice 123 = .ok (.ifCond .ne 7, 3) := by decide +kernel
theorem dX12_dice_126 : decode cX12_dice 126 = .ok (.iconst 1, 1) := by decide +kernel
theorem dX12_dice_127 : decode cX12_dice 127 = .ok (.goto 4, 3) := by decide +kernel
theorem dX12_dice_130 : decode cX12_dice 130 = .ok (.iconst 0, 1) := by decide +kernel
theorem dX12_dice_131 : decode cX12_dice 131 = .ok (.istore 7, 2) := by decide +kernel
theorem dX12_dice_133 : decode cX12_dice 133 = .ok (.iload_n 2, 1) := by decide +kernel
theorem dX12_dice_134 : decode cX12_dice 134 = .ok (.iconst 2, 1) := by decide +kernel
theorem dX12_dice_135 : decode cX12_dice 135 = .ok (.if_icmp .ne 22, 3) := by decide +kernel
theorem dX12_dice_138 : decode cX12_dice 138 = .ok (.iload 7, 2) := by decide +kernel
theorem dX12_dice_140 : decode cX12_dice 140 = .ok (.ifCond .eq 12, 3) := by decide +kernel
theorem dX12_dice_143 : decode cX12_dice 143 = .ok (.lload 5, 2) := by decide +kernel
theorem dX12_dice_145 : decode cX12_dice 145 = .ok (.ldc2_w 145, 3) := by decide +kernel
theorem dX12_dice_148 : decode cX12_dice 148 = .ok (.ldiv, 1) := by decide +kernel
theorem dX12_dice_149 : decode cX12_dice 149 = .ok (.goto 20, 3) := by decide +kernel
theorem dX12_dice_152 : decode cX12_dice 152 = .ok (.lload 5, 2) := by decide +kernel
theorem dX12_dice_154 : decode cX12_dice 154 = .ok (.goto 15, 3) := by decide +kernel
theorem dX12_dice_157 : decode cX12_dice 157 = .ok (.iload 7, 2) := by decide +kernel
theorem dX12_dice_159 : decode cX12_dice 159 = .ok (.ifCond .eq 7, 3) := by decide +kernel
theorem dX12_dice_162 : decode cX12_dice 162 = .ok (.lconst 1, 1) := by decide +kernel
theorem dX12_dice_163 : decode cX12_dice 163 = .ok (.goto 6, 3) := by decide +kernel
theorem dX12_dice_166 : decode cX12_dice 166 = .ok (.ldc2_w 145, 3) := by decide +kernel
theorem dX12_dice_169 : decode cX12_dice 169 = .ok (.lreturn, 1) := by decide +kernel
theorem dX12_chance_0 : decode cX12_chance 0 = .ok (.aload_n 0, 1) := by decide +kernel
theorem dX12_chance_1 : decode cX12_chance 1 = .ok (.iload_n 1, 1) := by decide +kernel
theorem dX12_chance_2 : decode cX12_chance 2 = .ok (.invokevirtual 170, 3) := by decide +kernel
theorem dX12_chance_5 : decode cX12_chance 5 = .ok (.ifCond .eq 24, 3) := by decide +kernel
theorem dX12_chance_8 : decode cX12_chance 8 = .ok (.aload_n 0, 1) := by decide +kernel
theorem dX12_chance_9 : decode cX12_chance 9 = .ok (.getfield 7, 3) := by decide +kernel
theorem dX12_chance_12 : decode cX12_chance 12 = .ok (.iload_n 1, 1) := by decide +kernel
theorem dX12_chance_13 : decode cX12_chance 13 = .ok (.iaload, 1) := by decide +kernel
theorem dX12_chance_14 : decode cX12_chance 14 = .ok (.iconst 3, 1) := by decide +kernel
theorem dX12_chance_15 : decode cX12_chance 15 = .ok (.if_icmp .ne 14, 3) := by decide +kernel
theorem dX12_chance_18 : decode cX12_chance 18 = .ok (.iload 4, 2) := by decide +kernel
theorem dX12_chance_20 : decode cX12_chance 20 = .ok (.i2l, 1) := by decide +kernel
theorem dX12_chance_21 : decode cX12_chance 21 = .ok (.lconst 0, 1) := by decide +kernel
theorem dX12_chance_22 : decode cX12_chance 22 = .ok (.lconst 1, 1) := by decide +kernel
theorem dX12_chance_23 : decode cX12_chance 23 = .ok (.invokestatic 135, 3) := by decide +kernel
theorem dX12_chance_26 : decode cX12_chance 26 = .ok (.ifCond .ne 7, 3) := by decide +kernel
theorem dX12_chance_29 : decode cX12_chance 29 = .ok (.ldc2_w 290, 3) := by decide +kernel
theorem dX12_chance_32 : decode cX12_chance 32 = .ok (.lreturn, 1) := by decide +kernel
theorem dX12_chance_33 : decode cX12_chance 33 = .ok (.aload_n 0, 1) := by decide +kernel
theorem dX12_chance_34 : decode cX12_chance 34 = .ok (.invokevirtual 208, 3) := by decide +kernel
theorem dX12_chance_37 : decode cX12_chance 37 = .ok (.aload_n 0, 1) := by decide +kernel
theorem dX12_chance_38 : decode cX12_chance 38 = .ok (.getfield 85, 3) := by decide +kernel
theorem dX12_chance_41 : decode cX12_chance 41 = .ok (.bipush 10, 2) := by decide +kernel
theorem dX12_chance_43 : decode cX12_chance 43 = .ok (.aload_n 0, 1) := by decide +kernel
theorem dX12_chance_44 : decode cX12_chance 44 = .ok (.getfield 70, 3) := by decide +kernel
theorem dX12_chance_47 : decode cX12_chance 47 = .ok (.iconst 3, 1) := by decide +kernel
theorem dX12_chance_48 : decode cX12_chance 48 = .ok (.iaload, 1) := by decide +kernel
theorem dX12_chance_49 : decode cX12_chance 49 = .ok (.imul, 1) := by decide +kernel
theorem dX12_chance_50 : decode cX12_chance 50 = .ok (.iload_n 1, 1) := by decide +kernel
theorem dX12_chance_51 : decode cX12_chance 51 = .ok (.iadd, 1) := by decide +kernel
theorem dX12_chance_52 : decode cX12_chance 52 = .ok (.laload, 1) := by decide +kernel
theorem dX12_chance_53 : decode cX12_chance 53 = .ok (.lstore 5, 2) := by decide +kernel
theorem dX12_chance_55 : decode cX12_chance 55 = .ok (.iconst 0, 1) := by decide +kernel
theorem dX12_chance_56 : decode cX12_chance 56 = .ok (.istore 7, 2) := by decide +kernel
theorem dX12_chance_58 : decode cX12_chance 58 = .ok (.iload 7, 2) := by decide +kernel
theorem dX12_chance_60 : decode cX12_chance 60 = .ok (.bipush 64, 2) := by decide +kernel
theorem dX12_chance_62 : decode cX12_chance 62 = .ok (.if_icmp .ge 26, 3) := by decide +kernel
theorem dX12_chance_65 : decode cX12_chance 65 = .ok (.aload_n 0, 1) := by decide +kernel
theorem dX12_chance_66 : decode cX12_chance 66 = .ok (.getfield 111, 3) := by decide +kernel
theorem dX12_chance_69 : decode cX12_chance 69 = .ok (.iload 7, 2) := by decide +kernel
theorem dX12_chance_71 : decode cX12_chance 71 = .ok (.iload 7, 2) := by decide +kernel
theorem dX12_chance_73 : decode cX12_chance 73 = .ok (.ifCond .ne 7, 3) := by decide +kernel
theorem dX12_chance_76 : decode cX12_chance 76 = .ok (.lconst 1, 1) := by decide +kernel
theorem dX12_chance_77 : decode cX12_chance 77 = .ok (.goto 4, 3) := by decide +kernel
theorem dX12_chance_80 : decode cX12_chance 80 = .ok (.lconst 0, 1) := by decide +kernel
theorem dX12_chance_81 : decode cX12_chance 81 = .ok (.lastore, 1) := by decide +kernel
theorem dX12_chance_82 : decode cX12_chance 82 = .ok (.iinc 7 1, 3) := by decide +kernel
theorem dX12_chance_85 : decode cX12_chance 85 = .ok (.goto (-27), 3) := by decide +kernel
theorem dX12_chance_88 : decode cX12_chance 88 = .ok (.iconst 0, 1) := by decide +kernel
theorem dX12_chance_89 : decode cX12_chance 89 = .ok (.istore 7, 2) := by decide +kernel
theorem dX12_chance_91 : decode cX12_chance 91 = .ok (.iload 7, 2) := by decide +kernel
theorem dX12_chance_93 : decode cX12_chance 93 = .ok (.aload_n 0, 1) := by decide +kernel
theorem dX12_chance_94 : decode cX12_chance 94 = .ok (.getfield 16, 3) := by decide +kernel
theorem dX12_chance_97 : decode cX12_chance 97 = .ok (.iload_n 1, 1) := by decide +kernel
theorem dX12_chance_98 : decode cX12_chance 98 = .ok (.iaload, 1) := by decide +kernel
theorem dX12_chance_99 : decode cX12_chance 99 = .ok (.if_icmp .ge 131, 3) := by decide +kernel
theorem dX12_chance_102 : decode cX12_chance 102 = .ok (.iconst 0, 1) := by decide +kernel
theorem dX12_chance_103 : decode cX12_chance 103 = .ok (.istore 8, 2) := by decide +kernel
theorem dX12_chance_105 : decode cX12_chance 105 = .ok (.iload 8, 2) := by decide +kernel
theorem dX12_chance_107 : decode cX12_chance 107 = .ok (.bipush 64, 2) := by decide +kernel
theorem dX12_chance_109 : decode cX12_chance 109 = .ok (.if_icmp .ge 17, 3) := by decide +kernel
theorem dX12_chance_112 : decode cX12_chance 112 = .ok (.aload_n 0, 1) := by decide +kernel
theorem dX12_chance_113 : decode cX12_chance 113 = .ok (.getfield 114, 3) := by decide +kernel
theorem dX12_chance_116 : decode cX12_chance 116 = .ok (.iload 8, 2) := by decide +kernel
theorem dX12_chance_118 : decode cX12_chance 118 = .ok (.lconst 0, 1) := by decide +kernel
theorem dX12_chance_119 : decode cX12_chance 119 = .ok (.lastore, 1) := by decide +kernel
theorem dX12_chance_120 : decode cX12_chance 120 = .ok (.iinc 8 1, 3) := by decide +kernel
theorem dX12_chance_123 : decode cX12_chance 123 = .ok (.goto (-18), 3) := by decide +kernel
theorem dX12_chance_126 : decode cX12_chance 126 = .ok (.iconst 0, 1) := by decide +kernel
theorem dX12_chance_127 : decode cX12_chance 127 = .ok (.istore 8, 2) := by decide +kernel
theorem dX12_chance_129 : decode cX12_chance 129 = .ok (.iload 8, 2) := by decide +kernel
theorem dX12_chance_131 : decode cX12_chance 131 = .ok (.bipush 64, 2) := by decide +kernel
theorem dX12_chance_133 : decode cX12_chance 133 = .ok (.if_icmp .ge 61, 3) := by decide +kernel
theorem dX12_chance_136 : decode cX12_chance 136 = .ok (.iconst 1, 1) := by decide +kernel
theorem dX12_chance_137 : decode cX12_chance 137 = .ok (.istore 9, 2) := by decide +kernel
theorem dX12_chance_139 : decode cX12_chance 139 = .ok (.iload 9, 2) := by decide +kernel
theorem dX12_chance_141 : decode cX12_chance 141 = .ok (.aload_n 0, 1) := by decide +kernel
theorem dX12_chance_142 : decode cX12_chance 142 = .ok (.getfield 19, 3) := by decide +kernel
theorem dX12_chance_145 : decode cX12_chance 145 = .ok (.iload_n 1, 1) := by decide +kernel
theorem dX12_chance_146 : decode cX12_chance 146 = .ok (.iaload, 1) := by decide +kernel
theorem dX12_chance_147 : decode cX12_chance 147 = .ok (.if_icmp .gt 41, 3) := by decide +kernel
theorem dX12_chance_150 : decode cX12_chance 150 = .ok (.aload_n 0, 1) := by decide +kernel
theorem dX12_chance_151 : decode cX12_chance 151 = .ok (.getfield 111, 3) := by decide +kernel
theorem dX12_chance_154 : decode cX12_chance 154 = .ok (.iload 8, 2) := by decide +kernel
theorem dX12_chance_156 : decode cX12_chance 156 = .ok (.laload, 1) := by decide +kernel
theorem dX12_chance_157 : decode cX12_chance 157 = .ok (.lconst 0, 1) := by decide +kernel
theorem dX12_chance_158 : decode cX12_chance 158 = .ok (.lcmp, 1) := by decide +kernel
theorem dX12_chance_159 : decode cX12_chance 159 = .ok (.ifCond .le 29, 3) := by decide +kernel
theorem dX12_chance_162 : decode cX12_chance 162 = .ok (.aload_n 0, 1) := by decide +kernel
theorem dX12_chance_163 : decode cX12_chance 163 = .ok (.getfield 114, 3) := by decide +kernel
theorem dX12_chance_166 : decode cX12_chance 166 = .ok (.iload 8, 2) := by decide +kernel
theorem dX12_chance_168 : decode cX12_chance 168 = .ok (.iload 9, 2) := by decide +kernel
theorem dX12_chance_170 : decode cX12_chance 170 = .ok (.iadd, 1) := by decide +kernel
theorem dX12_chance_171 : decode cX12_chance 171 = .ok (.dup2, 1) := by decide +kernel
theorem dX12_chance_172 : decode cX12_chance 172 = .ok (.laload, 1) := by decide +kernel
theorem dX12_chance_173 : decode cX12_chance 173 = .ok (.aload_n 0, 1) := by decide +kernel
theorem dX12_chance_174 : decode cX12_chance 174 = .ok (.getfield 111, 3) := by decide +kernel
theorem dX12_chance_177 : decode cX12_chance 177 = .ok (.iload 8, 2) := by decide +kernel
theorem dX12_chance_179 : decode cX12_chance 179 = .ok (.laload, 1) := by decide +kernel
theorem dX12_chance_180 : decode cX12_chance 180 = .ok (.ladd, 1) := by decide +kernel
theorem dX12_chance_181 : decode cX12_chance 181 = .ok (.lastore, 1) := by decide +kernel
theorem dX12_chance_182 : decode cX12_chance 182 = .ok (.iinc 9 1, 3) := by decide +kernel
theorem dX12_chance_185 : decode cX12_chance 185 = .ok (.goto (-46), 3) := by decide +kernel
theorem dX12_chance_188 : decode cX12_chance 188 = .ok (.iinc 8 1, 3) := by decide +kernel
theorem dX12_chance_191 : decode cX12_chance 191 = .ok (.goto (-62), 3) := by decide +kernel
theorem dX12_chance_194 : decode cX12_chance 194 = .ok (.iconst 0, 1) := by decide +kernel
theorem dX12_chance_195 : decode cX12_chance 195 = .ok (.istore 8, 2) := by decide +kernel
theorem dX12_chance_197 : decode cX12_chance 197 = .ok (.iload 8, 2) := by decide +kernel
theorem dX12_chance_199 : decode cX12_chance 199 = .ok (.bipush 64, 2) := by decide +kernel
theorem dX12_chance_201 : decode cX12_chance 201 = .ok (.if_icmp .ge 23, 3) := by decide +kernel
theorem dX12_chance_204 : decode cX12_chance 204 = .ok (.aload_n 0, 1) := by decide +kernel
theorem dX12_chance_205 : decode cX12_chance 205 = .ok (.getfield 111, 3) := by decide +kernel
theorem dX12_chance_208 : decode cX12_chance 208 = .ok (.iload 8, 2) := by decide +kernel
theorem dX12_chance_210 : decode cX12_chance 210 = .ok (.aload_n 0, 1) := by decide +kernel
theorem dX12_chance_211 : decode cX12_chance 211 = .ok (.getfield 114, 3) := by decide +kernel
theorem dX12_chance_214 : decode cX12_chance 214 = .ok (.iload 8, 2) := by decide +kernel
theorem dX12_chance_216 : decode cX12_chance 216 = .ok (.laload, 1) := by decide +kernel
theorem dX12_chance_217 : decode cX12_chance 217 = .ok (.lastore, 1) := by decide +kernel
theorem dX12_chance_218 : decode cX12_chance 218 = .ok (.iinc 8 1, 3) := by decide +kernel
theorem dX12_chance_221 : decode cX12_chance 221 = .ok (.goto (-24), 3) := by decide +kernel
theorem dX12_chance_224 : decode cX12_chance 224 = .ok (.iinc 7 1, 3) := by decide +kernel
theorem dX12_chance_227 : decode cX12_chance 227 = .ok (.goto (-136), 3) := by decide +kernel
theorem dX12_chance_230 : decode cX12_chance 230 = .ok (.lconst 0, 1) := by decide +kernel
theorem dX12_chance_231 : decode cX12_chance 231 = .ok (.lstore 7, 2) := by decide +kernel
theorem dX12_chance_233 : decode cX12_chance 233 = .ok (.lconst 0, 1) := by decide +kernel
theorem dX12_chance_234 : decode cX12_chance 234 = .ok (.lstore 9, 2) := by decide +kernel
theorem dX12_chance_236 : decode cX12_chance 236 = .ok (.iconst 0, 1) := by decide +kernel
theorem dX12_chance_237 : decode cX12_chance 237 = .ok (.istore 11, 2) := by decide +kernel
theorem dX12_chance_239 : decode cX12_chance 239 = .ok (.iload 11, 2) := by decide +kernel
theorem dX12_chance_241 : decode cX12_chance 241 = .ok (.bipush 64, 2) := by decide +kernel
theorem dX12_chance_243 : decode cX12_chance 243 = .ok (.if_icmp .ge 45, 3) := by decide +kernel
theorem dX12_chance_246 : decode cX12_chance 246 = .ok (.lload 7, 2) := by decide +kernel
theorem dX12_chance_248 : decode cX12_chance 248 = .ok (.aload_n 0, 1) := by decide +kernel
theorem dX12_chance_249 : decode cX12_chance 249 = .ok (.getfield 111, 3) := by decide +kernel
theorem dX12_chance_252 : decode cX12_chance 252 = .ok (.iload 11, 2) := by decide +kernel
theorem dX12_chance_254 : decode cX12_chance 254 = .ok (.laload, 1) := by decide +kernel
theorem dX12_chance_255 : decode cX12_chance 255 = .ok (.ladd, 1) := by decide +kernel
theorem dX12_chance_256 : decode cX12_chance 256 = .ok (.lstore 7, 2) := by decide +kernel
theorem dX12_chance_258 : decode cX12_chance 258 = .ok (.iload 11, 2) := by decide +kernel
theorem dX12_chance_260 : decode cX12_chance 260 = .ok (.i2l, 1) := by decide +kernel
theorem dX12_chance_261 : decode cX12_chance 261 = .ok (.lload 5, 2) := by decide +kernel
theorem dX12_chance_263 : decode cX12_chance 263 = .ok (.ladd, 1) := by decide +kernel
theorem dX12_chance_264 : decode cX12_chance 264 = .ok (.iload_n 2, 1) := by decide +kernel
theorem dX12_chance_265 : decode cX12_chance 265 = .ok (.i2l, 1) := by decide +kernel
theorem dX12_chance_266 : decode cX12_chance 266 = .ok (.lcmp, 1) := by decide +kernel
theorem dX12_chance_267 : decode cX12_chance 267 = .ok (.ifCond .lt 15, 3) := by decide +kernel
theorem dX12_chance_270 : decode cX12_chance 270 = .ok (.lload 9, 2) := by decide +kernel
theorem dX12_chance_272 : decode cX12_chance 272 = .ok (.aload_n 0, 1) := by decide +kernel
theorem dX12_chance_273 : decode cX12_chance 273 = .ok (.getfield 111, 3) := by decide +kernel
theorem dX12_chance_276 : decode cX12_chance 276 = .ok (.iload 11, 2) := by decide +kernel
theorem dX12_chance_278 : decode cX12_chance 278 = .ok (.laload, 1) := by decide +kernel
theorem dX12_chance_279 : decode cX12_chance 279 = .ok (.ladd, 1) := by decide +kernel
theorem dX12_chance_280 : decode cX12_chance 280 = .ok (.lstore 9, 2) := by decide +kernel
theorem dX12_chance_282 : decode cX12_chance 282 = .ok (.iinc 11 1, 3) := by decide +kernel
theorem dX12_chance_285 : decode cX12_chance 285 = .ok (.goto (-46), 3) := by decide +kernel
theorem dX12_chance_288 : decode cX12_chance 288 = .ok (.iload_n 3, 1) := by decide +kernel
theorem dX12_chance_289 : decode cX12_chance 289 = .ok (.ifCond .eq 23, 3) := by decide +kernel
theorem dX12_chance_292 : decode cX12_chance 292 = .ok (.lload 7, 2) := by decide +kernel
theorem dX12_chance_294 : decode cX12_chance 294 = .ok (.lload 7, 2) := by decide +kernel
theorem dX12_chance_296 : decode cX12_chance 296 = .ok (.lmul, 1) := by decide +kernel
theorem dX12_chance_297 : decode cX12_chance 297 = .ok (.lload 7, 2) := by decide +kernel
theorem dX12_chance_299 : decode cX12_chance 299 = .ok (.lload 9, 2) := by decide +kernel
theorem dX12_chance_301 : decode cX12_chance 301 = .ok (.lsub, 1) := by decide +kernel
theorem dX12_chance_302 : decode cX12_chance 302 = .ok (.lload 7, 2) := by decide +kernel
theorem dX12_chance_304 : decode cX12_chance 304 = .ok (.lload 9, 2) := by decide +kernel
theorem dX12_chance_306 : decode cX12_chance 306 = .ok (.lsub, 1) := by decide +kernel
theorem dX12_chance_307 : decode cX12_chance 307 = .ok (.lmul, 1) := by decide +kernel
theorem dX12_chance_308 : decode cX12_chance 308 = .ok (.lsub, 1) := by decide +kernel
theorem dX12_chance_309 : decode cX12_chance 309 = .ok (.goto 5, 3) := by decide +kernel
theorem dX12_chance_312 : decode cX12_chance 312 = .ok (.lload 9, 2) := by decide +kernel
theorem dX12_chance_314 : decode cX12_chance 314 = .ok (.lstore 11, 2) := by decide +kernel
theorem dX12_chance_316 : decode cX12_chance 316 = .ok (.iload_n 3, 1) := by decide +kernel
theorem dX12_chance_317 : decode cX12_chance 317 = .ok (.ifCond .eq 11, 3) := by decide +kernel
theorem dX12_chance_320 : decode cX12_chance 320 = .ok (.lload 7, 2) := by decide +kernel
theorem dX12_chance_322 : decode cX12_chance 322 = .ok (.lload 7, 2) := by decide +kernel
theorem dX12_chance_324 : decode cX12_chance 324 = .ok (.lmul, 1) := by decide +kernel
theorem dX12_chance_325 : decode cX12_chance 325 = .ok (.goto 5, 3) := by decide +kernel
theorem dX12_chance_328 : decode cX12_chance 328 = .ok (.lload 7, 2) := by decide +kernel
theorem dX12_chance_330 : decode cX12_chance 330 = .ok (.lstore 13, 2) := by decide +kernel
theorem dX12_chance_332 : decode cX12_chance 332 = .ok (.lload 13, 2) := by decide +kernel
theorem dX12_chance_334 : decode cX12_chance 334 = .ok (.lload 11, 2) := by decide +kernel
theorem dX12_chance_336 : decode cX12_chance 336 = .ok (.invokestatic 300, 3) := by decide +kernel
theorem dX12_chance_339 : decode cX12_chance 339 = .ok (.lstore 15, 2) := by decide +kernel
theorem dX12_chance_341 : decode cX12_chance 341 = .ok (.iload 4, 2) := by decide +kernel
theorem dX12_chance_343 : decode cX12_chance 343 = .ok (.ifCond .ne 11, 3) := by decide +kernel
theorem dX12_chance_346 : decode cX12_chance 346 = .ok (.lload 11, 2) := by decide +kernel
theorem dX12_chance_348 : decode cX12_chance 348 = .ok (.lload 15, 2) := by decide +kernel
theorem dX12_chance_350 : decode cX12_chance 350 = .ok (.ldiv, 1) := by decide +kernel
theorem dX12_chance_351 : decode cX12_chance 351 = .ok (.goto 8, 3) := by decide +kernel
theorem dX12_chance_354 : decode cX12_chance 354 = .ok (.lload 13, 2) := by decide +kernel
theorem dX12_chance_356 : decode cX12_chance 356 = .ok (.lload 15, 2) := by decide +kernel
theorem dX12_chance_358 : decode cX12_chance 358 = .ok (.ldiv, 1) := by decide +kernel
theorem dX12_chance_359 : decode cX12_chance 359 = .ok (.lreturn, 1) := by decide +kernel
theorem dX12_count_0 : decode cX12_count 0 = .ok (.iconst 0, 1) := by decide +kernel
theorem dX12_count_1 : decode cX12_count 1 = .ok (.istore_n 2, 1) := by decide +kernel
theorem dX12_count_2 : decode cX12_count 2 = .ok (.iload_n 1, 1) := by decide +kernel
theorem dX12_count_3 : decode cX12_count 3 = .ok (.tableswitch 163 0 8 #[49, 49, 49, 56, 100, 108, 115, 153, 158], 49) := by decide +kernel
theorem dX12_count_52 : decode cX12_count 52 = .ok (.aload_n 0, 1) := by decide +kernel
theorem dX12_count_53 : decode cX12_count 53 = .ok (.getfield 70, 3) := by decide +kernel
theorem dX12_count_56 : decode cX12_count 56 = .ok (.iload_n 1, 1) := by decide +kernel
theorem dX12_count_57 : decode cX12_count 57 = .ok (.iaload, 1) := by decide +kernel
theorem dX12_count_58 : decode cX12_count 58 = .ok (.ireturn, 1) := by decide +kernel
theorem dX12_count_59 : decode cX12_count 59 = .ok (.iconst 0, 1) := by decide +kernel
theorem dX12_count_60 : decode cX12_count 60 = .ok (.istore_n 3, 1) := by decide +kernel
theorem dX12_count_61 : decode cX12_count 61 = .ok (.iload_n 3, 1) := by decide +kernel
theorem dX12_count_62 : decode cX12_count 62 = .ok (.aload_n 0, 1) := by decide +kernel
theorem dX12_count_63 : decode cX12_count 63 = .ok (.getfield 70, 3) := by decide +kernel
theorem dX12_count_66 : decode cX12_count 66 = .ok (.iconst 2, 1) := by decide +kernel
theorem dX12_count_67 : decode cX12_count 67 = .ok (.iaload, 1) := by decide +kernel
theorem dX12_count_68 : decode cX12_count 68 = .ok (.if_icmp .ge 33, 3) := by decide +kernel
theorem dX12_count_71 : decode cX12_count 71 = .ok (.iload_n 2, 1) := by decide +kernel
theorem dX12_count_72 : decode cX12_count 72 = .ok (.aload_n 0, 1) := by decide +kernel
theorem dX12_count_73 : decode cX12_count 73 = .ok (.getfield 67, 3) := by decide +kernel
theorem dX12_count_76 : decode cX12_count 76 = .ok (.iload_n 3, 1) := by decide +kernel
theorem dX12_count_77 : decode cX12_count 77 = .ok (.iaload, 1) := by decide +kernel
theorem dX12_count_78 : decode cX12_count 78 = .ok (.aload_n 0, 1) := by decide +kernel
theorem dX12_count_79 : decode cX12_count 79 = .ok (.getfield 70, 3) := by decide +kernel
theorem dX12_count_82 : decode cX12_count 82 = .ok (.bipush 6, 2) := by decide +kernel
theorem dX12_count_84 : decode cX12_count 84 = .ok (.iaload, 1) := by decide +kernel
theorem dX12_count_85 : decode cX12_count 85 = .ok (.if_icmp .le 7, 3) := by decide +kernel
theorem dX12_count_88 : decode cX12_count 88 = .ok (.iconst 1, 1) := by decide +kernel
theorem dX12_count_89 : decode cX12_count 89 = .ok (.goto 4, 3) := by decide +kernel
theorem dX12_count_92 : decode cX12_count 92 = .ok (.iconst 0, 1) := by decide +kernel
theorem dX12_count_93 : decode cX12_count 93 = .ok (.iadd, 1) := by decide +kernel
theorem dX12_count_94 : decode cX12_count 94 = .ok (.istore_n 2, 1) := by decide +kernel
theorem dX12_count_95 : decode cX12_count 95 = .ok (.iinc 3 1, 3) := by decide +kernel
theorem dX12_count_98 : decode cX12_count 98 = .ok (.goto (-37), 3) := by decide +kernel
theorem dX12_count_101 : decode cX12_count 101 = .ok (.iload_n 2, 1) := by decide +kernel
theorem dX12_count_102 : decode cX12_count 102 = .ok (.ireturn, 1) := by decide +kernel
theorem dX12_count_103 : decode cX12_count 103 = .ok (.aload_n 0, 1) := by decide +kernel
theorem dX12_count_104 : decode cX12_count 104 = .ok (.getfield 70, 3) := by decide +kernel
theorem dX12_count_107 : decode cX12_count 107 = .ok (.bipush 6, 2) := by decide +kernel
theorem dX12_count_109 : decode cX12_count 109 = .ok (.iaload, 1) := by decide +kernel
theorem dX12_count_110 : decode cX12_count 110 = .ok (.ireturn, 1) := by decide +kernel
theorem dX12_count_111 : decode cX12_count 111 = .ok (.aload_n 0, 1) := by decide +kernel
theorem dX12_count_112 : decode cX12_count 112 = .ok (.getfield 70, 3) := by decide +kernel
theorem dX12_count_115 : decode cX12_count 115 = .ok (.iconst 3, 1) := by decide +kernel
theorem dX12_count_116 : decode cX12_count 116 = .ok (.iaload, 1) := by decide +kernel
theorem dX12_count_117 : decode cX12_count 117 = .ok (.ireturn, 1) := by decide +kernel
theorem dX12_count_118 : decode cX12_count 118 = .ok (.aload_n 0, 1) := by decide +kernel
theorem dX12_count_119 : decode cX12_count 119 = .ok (.invokevirtual 208, 3) := by decide +kernel
theorem dX12_count_122 : decode cX12_count 122 = .ok (.iconst 0, 1) := by decide +kernel
theorem dX12_count_123 : decode cX12_count 123 = .ok (.istore_n 3, 1) := by decide +kernel
theorem dX12_count_124 : decode cX12_count 124 = .ok (.iload_n 3, 1) := by decide +kernel
theorem dX12_count_125 : decode cX12_count 125 = .ok (.sipush 256, 3) := by decide +kernel
theorem dX12_count_128 : decode cX12_count 128 = .ok (.if_icmp .ge 26, 3) := by decide +kernel
theorem dX12_count_131 : decode cX12_count 131 = .ok (.iload_n 2, 1) := by decide +kernel
theorem dX12_count_132 : decode cX12_count 132 = .ok (.aload_n 0, 1) := by decide +kernel
theorem dX12_count_133 : decode cX12_count 133 = .ok (.getfield 95, 3) := by decide +kernel
theorem dX12_count_136 : decode cX12_count 136 = .ok (.iload_n 3, 1) := by decide +kernel
theorem dX12_count_137 : decode cX12_count 137 = .ok (.baload, 1) := by decide +kernel
theorem dX12_count_138 : decode cX12_count 138 = .ok (.ifCond .eq 7, 3) := by decide +kernel
theorem dX12_count_141 : decode cX12_count 141 = .ok (.iconst 1, 1) := by decide +kernel
theorem dX12_count_142 : decode cX12_count 142 = .ok (.goto 4, 3) := by decide +kernel
theorem dX12_count_145 : decode cX12_count 145 = .ok (.iconst 0, 1) := by decide +kernel
theorem dX12_count_146 : decode cX12_count 146 = .ok (.iadd, 1) := by decide +kernel
theorem dX12_count_147 : decode cX12_count 147 = .ok (.istore_n 2, 1) := by decide +kernel
theorem dX12_count_148 : decode cX12_count 148 = .ok (.iinc 3 1, 3) := by decide +kernel
theorem dX12_count_151 : decode cX12_count 151 = .ok (.goto (-27), 3) := by decide +kernel
theorem dX12_count_154 : decode cX12_count 154 = .ok (.iload_n 2, 1) := by decide +kernel
theorem dX12_count_155 : decode cX12_count 155 = .ok (.ireturn, 1) := by decide +kernel
theorem dX12_count_156 : decode cX12_count 156 = .ok (.aload_n 0, 1) := by decide +kernel
theorem dX12_count_157 : decode cX12_count 157 = .ok (.getfield 304, 3) := by decide +kernel
theorem dX12_count_160 : decode cX12_count 160 = .ok (.ireturn, 1) := by decide +kernel
theorem dX12_count_161 : decode cX12_count 161 = .ok (.aload_n 0, 1) := by decide +kernel
theorem dX12_count_162 : decode cX12_count 162 = .ok (.getfield 200, 3) := by decide +kernel
theorem dX12_count_165 : decode cX12_count 165 = .ok (.ireturn, 1) := by decide +kernel
theorem dX12_count_166 : decode cX12_count 166 = .ok (.iconst (-1), 1) := by decide +kernel
theorem dX12_count_167 : decode cX12_count 167 = .ok (.ireturn, 1) := by decide +kernel
theorem dX12_notes_0 : decode cX12_notes 0 = .ok (.aload_n 0, 1) := by decide +kernel
theorem dX12_notes_1 : decode cX12_notes 1 = .ok (.getfield 304, 3) := by decide +kernel
theorem dX12_notes_4 : decode cX12_notes 4 = .ok (.bipush 50, 2) := by decide +kernel
theorem dX12_notes_6 : decode cX12_notes 6 = .ok (.if_icmp .ge 13, 3) := by decide +kernel
theorem dX12_notes_9 : decode cX12_notes 9 = .ok (.aload_n 0, 1) := by decide +kernel
theorem dX12_notes_10 : decode cX12_notes 10 = .ok (.getfield 117, 3) := by decide +kernel
theorem dX12_notes_13 : decode cX12_notes 13 = .ok (.aload_n 0, 1) := by decide +kernel
theorem dX12_notes_14 : decode cX12_notes 14 = .ok (.getfield 304, 3) := by decide +kernel
theorem dX12_notes_17 : decode cX12_notes 17 = .ok (.iload_n 1, 1) := by decide +kernel
theorem dX12_notes_18 : decode cX12_notes 18 = .ok (.iastore, 1) := by decide +kernel
theorem dX12_notes_19 : decode cX12_notes 19 = .ok (.aload_n 0, 1) := by decide +kernel
theorem dX12_notes_20 : decode cX12_notes 20 = .ok (.dup, 1) := by decide +kernel
theorem dX12_notes_21 : decode cX12_notes 21 = .ok (.getfield 304, 3) := by decide +kernel
theorem dX12_notes_24 : decode cX12_notes 24 = .ok (.iconst 1, 1) := by decide +kernel
theorem dX12_notes_25 : decode cX12_notes 25 = .ok (.iadd, 1) := by decide +kernel
theorem dX12_notes_26 : decode cX12_notes 26 = .ok (.putfield 304, 3) := by decide +kernel
theorem dX12_notes_29 : decode cX12_notes 29 = .ok (.return_, 1) := by decide +kernel
theorem dX12_plainGive_0 : decode cX12_plainGive 0 = .ok (.aload_n 0, 1) := by decide +kernel
theorem dX12_plainGive_1 : decode cX12_plainGive 1 = .ok (.bipush 10, 2) := by decide +kernel
theorem dX12_plainGive_3 : decode cX12_plainGive 3 = .ok (.invokevirtual 307, 3) := by decide +kernel
theorem dX12_plainGive_6 : decode cX12_plainGive 6 = .ok (.iload_n 2, 1) := by decide +kernel
theorem dX12_plainGive_7 : decode cX12_plainGive 7 = .ok (.aload_n 0, 1) := by decide +kernel
theorem dX12_plainGive_8 : decode cX12_plainGive 8 = .ok (.getfield 31, 3) := by decide +kernel
theorem dX12_plainGive_11 : decode cX12_plainGive 11 = .ok (.iload_n 1, 1) := by decide +kernel
theorem dX12_plainGive_12 : decode cX12_plainGive 12 = .ok (.iaload, 1) := by decide +kernel
theorem dX12_plainGive_13 : decode cX12_plainGive 13 = .ok (.iadd, 1) := by decide +kernel
theorem dX12_plainGive_14 : decode cX12_plainGive 14 = .ok (.ireturn, 1) := by decide +kernel
theorem dX12_give_0 : decode cX12_give 0 = .ok (.aload_n 0, 1) := by decide +kernel
theorem dX12_give_1 : decode cX12_give 1 = .ok (.getfield 25, 3) := by decide +kernel
theorem dX12_give_4 : decode cX12_give 4 = .ok (.iload_n 1, 1) := by decide +kernel
theorem dX12_give_5 : decode cX12_give 5 = .ok (.iaload, 1) := by decide +kernel
theorem dX12_give_6 : decode cX12_give 6 = .ok (.iconst 1, 1) := by decide +kernel
theorem dX12_give_7 : decode cX12_give 7 = .ok (.if_icmp .ne 18, 3) := by decide +kernel
theorem dX12_give_10 : decode cX12_give 10 = .ok (.aload_n 0, 1) := by decide +kernel
theorem dX12_give_11 : decode cX12_give 11 = .ok (.bipush 20, 2) := by decide +kernel
theorem dX12_give_13 : decode cX12_give 13 = .ok (.invokevirtual 307, 3) := by decide +kernel
theorem dX12_give_16 : decode cX12_give 16 = .ok (.aload_n 0, 1) := by decide +kernel
theorem dX12_give_17 : decode cX12_give 17 = .ok (.iload_n 1, 1) := by decide +kernel
theorem dX12_give_18 : decode cX12_give 18 = .ok (.iload_n 2, 1) := by decide +kernel
theorem dX12_give_19 : decode cX12_give 19 = .ok (.invokevirtual 310, 3) := by decide +kernel
theorem dX12_give_22 : decode cX12_give 22 = .ok (.iload_n 1, 1) := by decide +kernel
theorem dX12_give_23 : decode cX12_give 23 = .ok (.iadd, 1) := by decide +kernel
theorem dX12_give_24 : decode cX12_give 24 = .ok (.ireturn, 1) := by decide +kernel
theorem dX12_give_25 : decode cX12_give 25 = .ok (.aload_n 0, 1) := by decide +kernel
theorem dX12_give_26 : decode cX12_give 26 = .ok (.getfield 25, 3) := by decide +kernel
theorem dX12_give_29 : decode cX12_give 29 = .ok (.iload_n 1, 1) := by decide +kernel
theorem dX12_give_30 : decode cX12_give 30 = .ok (.iaload, 1) := by decide +kernel
theorem dX12_give_31 : decode cX12_give 31 = .ok (.bipush 6, 2) := by decide +kernel
theorem dX12_give_33 : decode cX12_give 33 = .ok (.if_icmp .ne 18, 3) := by decide +kernel
theorem dX12_give_36 : decode cX12_give 36 = .ok (.aload_n 0, 1) := by decide +kernel
theorem dX12_give_37 : decode cX12_give 37 = .ok (.bipush 70, 2) := by decide +kernel
theorem dX12_give_39 : decode cX12_give 39 = .ok (.invokevirtual 307, 3) := by decide +kernel
theorem dX12_give_42 : decode cX12_give 42 = .ok (.aload_n 0, 1) := by decide +kernel
theorem dX12_give_43 : decode cX12_give 43 = .ok (.iload_n 1, 1) := by decide +kernel
theorem dX12_give_44 : decode cX12_give 44 = .ok (.iload_n 2, 1) := by decide +kernel
theorem dX12_give_45 : decode cX12_give 45 = .ok (.invokevirtual 310, 3) := by decide +kernel
theorem dX12_give_48 : decode cX12_give 48 = .ok (.iconst 5, 1) := by decide +kernel
theorem dX12_give_49 : decode cX12_give 49 = .ok (.ixor, 1) := by decide +kernel
theorem dX12_give_50 : decode cX12_give 50 = .ok (.ireturn, 1) := by decide +kernel
theorem dX12_give_51 : decode cX12_give 51 = .ok (.aload_n 0, 1) := by decide +kernel
theorem dX12_give_52 : decode cX12_give 52 = .ok (.iload_n 1, 1) := by decide +kernel
theorem dX12_give_53 : decode cX12_give 53 = .ok (.iload_n 2, 1) := by decide +kernel
theorem dX12_give_54 : decode cX12_give 54 = .ok (.invokevirtual 310, 3) := by decide +kernel
theorem dX12_give_57 : decode cX12_give 57 = .ok (.ireturn, 1) := by decide +kernel
theorem dX12_plainOpen_0 : decode cX12_plainOpen 0 = .ok (.aload_n 0, 1) := by decide +kernel
theorem dX12_plainOpen_1 : decode cX12_plainOpen 1 = .ok (.bipush 12, 2) := by decide +kernel
theorem dX12_plainOpen_3 : decode cX12_plainOpen 3 = .ok (.invokevirtual 307, 3) := by decide +kernel
theorem dX12_plainOpen_6 : decode cX12_plainOpen 6 = .ok (.iload_n 2, 1) := by decide +kernel
theorem dX12_plainOpen_7 : decode cX12_plainOpen 7 = .ok (.aload_n 0, 1) := by decide +kernel
theorem dX12_plainOpen_8 : decode cX12_plainOpen 8 = .ok (.getfield 34, 3) := by decide +kernel
theorem dX12_plainOpen_11 : decode cX12_plainOpen 11 = .ok (.iload_n 1, 1) := by decide +kernel
theorem dX12_plainOpen_12 : decode cX12_plainOpen 12 = .ok (.iaload, 1) := by decide +kernel
theorem dX12_plainOpen_13 : decode cX12_plainOpen 13 = .ok (.isub, 1) := by decide +kernel
theorem dX12_plainOpen_14 : decode cX12_plainOpen 14 = .ok (.ireturn, 1) := by decide +kernel
theorem dX12_open_0 : decode cX12_open 0 = .ok (.aload_n 0, 1) := by decide +kernel
theorem dX12_open_1 : decode cX12_open 1 = .ok (.getfield 25, 3) := by decide +kernel
theorem dX12_open_4 : decode cX12_open 4 = .ok (.iload_n 1, 1) := by decide +kernel
theorem dX12_open_5 : decode cX12_open 5 = .ok (.iaload, 1) := by decide +kernel
theorem dX12_open_6 : decode cX12_open 6 = .ok (.iconst 4, 1) := by decide +kernel
theorem dX12_open_7 : decode cX12_open 7 = .ok (.if_icmp .ne 18, 3) := by decide +kernel
theorem dX12_open_10 : decode cX12_open 10 = .ok (.aload_n 0, 1) := by decide +kernel
theorem dX12_open_11 : decode cX12_open 11 = .ok (.bipush 50, 2) := by decide +kernel
theorem dX12_open_13 : decode cX12_open 13 = .ok (.invokevirtual 307, 3) := by decide +kernel
theorem dX12_open_16 : decode cX12_open 16 = .ok (.aload_n 0, 1) := by decide +kernel
theorem dX12_open_17 : decode cX12_open 17 = .ok (.iload_n 1, 1) := by decide +kernel
theorem dX12_open_18 : decode cX12_open 18 = .ok (.iload_n 2, 1) := by decide +kernel
theorem dX12_open_19 : decode cX12_open 19 = .ok (.invokevirtual 313, 3) := by decide +kernel
theorem dX12_open_22 : decode cX12_open 22 = .ok (.iconst 3, 1) := by decide +kernel
theorem dX12_open_23 : decode cX12_open 23 = .ok (.imul, 1) := by decide +kernel
theorem dX12_open_24 : decode cX12_open 24 = .ok (.ireturn, 1) := by decide +kernel
theorem dX12_open_25 : decode cX12_open 25 = .ok (.aload_n 0, 1) := by decide +kernel
theorem dX12_open_26 : decode cX12_open 26 = .ok (.getfield 25, 3) := by decide +kernel
theorem dX12_open_29 : decode cX12_open 29 = .ok (.iload_n 1, 1) := by decide +kernel
theorem dX12_open_30 : decode cX12_open 30 = .ok (.iaload, 1) := by decide +kernel
theorem dX12_open_31 : decode cX12_open 31 = .ok (.iconst 5, 1) := by decide +kernel
theorem dX12_open_32 : decode cX12_open 32 = .ok (.if_icmp .lt 23, 3) := by decide +kernel
theorem dX12_open_35 : decode cX12_open 35 = .ok (.aload_n 0, 1) := by decide +kernel
theorem dX12_open_36 : decode cX12_open 36 = .ok (.bipush 60, 2) := by decide +kernel
theorem dX12_open_38 : decode cX12_open 38 = .ok (.invokevirtual 307, 3) := by decide +kernel
theorem dX12_open_41 : decode cX12_open 41 = .ok (.aload_n 0, 1) := by decide +kernel
theorem dX12_open_42 : decode cX12_open 42 = .ok (.iload_n 1, 1) := by decide +kernel
theorem dX12_open_43 : decode cX12_open 43 = .ok (.iload_n 2, 1) := by decide +kernel
theorem dX12_open_44 : decode cX12_open 44 = .ok (.invokevirtual 313, 3) := by decide +kernel
theorem dX12_open_47 : decode cX12_open 47 = .ok (.aload_n 0, 1) := by decide +kernel
theorem dX12_open_48 : decode cX12_open 48 = .ok (.getfield 31, 3) := by decide +kernel
theorem dX12_open_51 : decode cX12_open 51 = .ok (.iload_n 1, 1) := by decide +kernel
theorem dX12_open_52 : decode cX12_open 52 = .ok (.iaload, 1) := by decide +kernel
theorem dX12_open_53 : decode cX12_open 53 = .ok (.iadd, 1) := by decide +kernel
theorem dX12_open_54 : decode cX12_open 54 = .ok (.ireturn, 1) := by decide +kernel
theorem dX12_open_55 : decode cX12_open 55 = .ok (.aload_n 0, 1) := by decide +kernel
theorem dX12_open_56 : decode cX12_open 56 = .ok (.iload_n 1, 1) := by decide +kernel
theorem dX12_open_57 : decode cX12_open 57 = .ok (.iload_n 2, 1) := by decide +kernel
theorem dX12_open_58 : decode cX12_open 58 = .ok (.invokevirtual 313, 3) := by decide +kernel
theorem dX12_open_61 : decode cX12_open 61 = .ok (.ireturn, 1) := by decide +kernel
theorem dX12_plainFit_0 : decode cX12_plainFit 0 = .ok (.aload_n 0, 1) := by decide +kernel
theorem dX12_plainFit_1 : decode cX12_plainFit 1 = .ok (.bipush 11, 2) := by decide +kernel
theorem dX12_plainFit_3 : decode cX12_plainFit 3 = .ok (.invokevirtual 307, 3) := by decide +kernel
theorem dX12_plainFit_6 : decode cX12_plainFit 6 = .ok (.aload_n 0, 1) := by decide +kernel
theorem dX12_plainFit_7 : decode cX12_plainFit 7 = .ok (.iload_n 1, 1) := by decide +kernel
theorem dX12_plainFit_8 : decode cX12_plainFit 8 = .ok (.iload_n 2, 1) := by decide +kernel
theorem dX12_plainFit_9 : decode cX12_plainFit 9 = .ok (.invokevirtual 316, 3) := by decide +kernel
theorem dX12_plainFit_12 : decode cX12_plainFit 12 = .ok (.iconst 2, 1) := by decide +kernel
theorem dX12_plainFit_13 : decode cX12_plainFit 13 = .ok (.imul, 1) := by decide +kernel
theorem dX12_plainFit_14 : decode cX12_plainFit 14 = .ok (.ireturn, 1) := by decide +kernel
theorem dX12_openFit_0 : decode cX12_openFit 0 = .ok (.aload_n 0, 1) := by decide +kernel
theorem dX12_openFit_1 : decode cX12_openFit 1 = .ok (.bipush 61, 2) := by decide +kernel
theorem dX12_openFit_3 : decode cX12_openFit 3 = .ok (.invokevirtual 307, 3) := by decide +kernel
theorem dX12_openFit_6 : decode cX12_openFit 6 = .ok (.aload_n 0, 1) := by decide +kernel
theorem dX12_openFit_7 : decode cX12_openFit 7 = .ok (.iload_n 1, 1) := by decide +kernel
theorem dX12_openFit_8 : decode cX12_openFit 8 = .ok (.iload_n 2, 1) := by decide +kernel
theorem dX12_openFit_9 : decode cX12_openFit 9 = .ok (.aload_n 0, 1) := by decide +kernel
theorem dX12_openFit_10 : decode cX12_openFit 10 = .ok (.getfield 34, 3) := by decide +kernel
theorem dX12_openFit_13 : decode cX12_openFit 13 = .ok (.iload_n 1, 1) := by decide +kernel
theorem dX12_openFit_14 : decode cX12_openFit 14 = .ok (.iaload, 1) := by decide +kernel
theorem dX12_openFit_15 : decode cX12_openFit 15 = .ok (.isub, 1) := by decide +kernel
theorem dX12_openFit_16 : decode cX12_openFit 16 = .ok (.invokevirtual 319, 3) := by decide +kernel
theorem dX12_openFit_19 : decode cX12_openFit 19 = .ok (.ireturn, 1) := by decide +kernel
theorem dX12_fit_0 : decode cX12_fit 0 = .ok (.aload_n 0, 1) := by decide +kernel
theorem dX12_fit_1 : decode cX12_fit 1 = .ok (.getfield 25, 3) := by decide +kernel
theorem dX12_fit_4 : decode cX12_fit 4 = .ok (.iload_n 1, 1) := by decide +kernel
theorem dX12_fit_5 : decode cX12_fit 5 = .ok (.iaload, 1) := by decide +kernel
theorem dX12_fit_6 : decode cX12_fit 6 = .ok (.iconst 2, 1) := by decide +kernel
theorem dX12_fit_7 : decode cX12_fit 7 = .ok (.if_icmp .ne 25, 3) := by decide +kernel
theorem dX12_fit_10 : decode cX12_fit 10 = .ok (.aload_n 0, 1) := by decide +kernel
theorem dX12_fit_11 : decode cX12_fit 11 = .ok (.bipush 30, 2) := by decide +kernel
theorem dX12_fit_13 : decode cX12_fit 13 = .ok (.invokevirtual 307, 3) := by decide +kernel
theorem dX12_fit_16 : decode cX12_fit 16 = .ok (.aload_n 0, 1) := by decide +kernel
theorem dX12_fit_17 : decode cX12_fit 17 = .ok (.iload_n 1, 1) := by decide +kernel
theorem dX12_fit_18 : decode cX12_fit 18 = .ok (.iload_n 2, 1) := by decide +kernel
theorem dX12_fit_19 : decode cX12_fit 19 = .ok (.invokevirtual 319, 3) := by decide +kernel
theorem dX12_fit_22 : decode cX12_fit 22 = .ok (.istore_n 3, 1) := by decide +kernel
theorem dX12_fit_23 : decode cX12_fit 23 = .ok (.iload_n 3, 1) := by decide +kernel
theorem dX12_fit_24 : decode cX12_fit 24 = .ok (.aload_n 0, 1) := by decide +kernel
theorem dX12_fit_25 : decode cX12_fit 25 = .ok (.iload_n 1, 1) := by decide +kernel
theorem dX12_fit_26 : decode cX12_fit 26 = .ok (.iload_n 2, 1) := by decide +kernel
theorem dX12_fit_27 : decode cX12_fit 27 = .ok (.invokevirtual 316, 3) := by decide +kernel
theorem dX12_fit_30 : decode cX12_fit 30 = .ok (.isub, 1) := by decide +kernel
theorem dX12_fit_31 : decode cX12_fit 31 = .ok (.ireturn, 1) := by decide +kernel
theorem dX12_fit_32 : decode cX12_fit 32 = .ok (.aload_n 0, 1) := by decide +kernel
theorem dX12_fit_33 : decode cX12_fit 33 = .ok (.getfield 25, 3) := by decide +kernel
theorem dX12_fit_36 : decode cX12_fit 36 = .ok (.iload_n 1, 1) := by decide +kernel
theorem dX12_fit_37 : decode cX12_fit 37 = .ok (.iaload, 1) := by decide +kernel
theorem dX12_fit_38 : decode cX12_fit 38 = .ok (.bipush 6, 2) := by decide +kernel
theorem dX12_fit_40 : decode cX12_fit 40 = .ok (.if_icmp .ne 25, 3) := by decide +kernel
theorem dX12_fit_43 : decode cX12_fit 43 = .ok (.aload_n 0, 1) := by decide +kernel
theorem dX12_fit_44 : decode cX12_fit 44 = .ok (.bipush 71, 2) := by decide +kernel
theorem dX12_fit_46 : decode cX12_fit 46 = .ok (.invokevirtual 307, 3) := by decide +kernel
theorem dX12_fit_49 : decode cX12_fit 49 = .ok (.aload_n 0, 1) := by decide +kernel
theorem dX12_fit_50 : decode cX12_fit 50 = .ok (.iload_n 1, 1) := by decide +kernel
theorem dX12_fit_51 : decode cX12_fit 51 = .ok (.iload_n 2, 1) := by decide +kernel
theorem dX12_fit_52 : decode cX12_fit 52 = .ok (.invokevirtual 322, 3) := by decide +kernel
theorem dX12_fit_55 : decode cX12_fit 55 = .ok (.istore_n 3, 1) := by decide +kernel
theorem dX12_fit_56 : decode cX12_fit 56 = .ok (.iload_n 3, 1) := by decide +kernel
theorem dX12_fit_57 : decode cX12_fit 57 = .ok (.aload_n 0, 1) := by decide +kernel
theorem dX12_fit_58 : decode cX12_fit 58 = .ok (.iload_n 1, 1) := by decide +kernel
theorem dX12_fit_59 : decode cX12_fit 59 = .ok (.iconst 0, 1) := by decide +kernel
theorem dX12_fit_60 : decode cX12_fit 60 = .ok (.invokevirtual 325, 3) := by decide +kernel
theorem dX12_fit_63 : decode cX12_fit 63 = .ok (.iadd, 1) := by decide +kernel
theorem dX12_fit_64 : decode cX12_fit 64 = .ok (.ireturn, 1) := by decide +kernel
theorem dX12_fit_65 : decode cX12_fit 65 = .ok (.aload_n 0, 1) := by decide +kernel
theorem dX12_fit_66 : decode cX12_fit 66 = .ok (.getfield 25, 3) := by decide +kernel
theorem dX12_fit_69 : decode cX12_fit 69 = .ok (.iload_n 1, 1) := by decide +kernel
theorem dX12_fit_70 : decode cX12_fit 70 = .ok (.iaload, 1) := by decide +kernel
theorem dX12_fit_71 : decode cX12_fit 71 = .ok (.iconst 5, 1) := by decide +kernel
theorem dX12_fit_72 : decode cX12_fit 72 = .ok (.if_icmp .ne 12, 3) := by decide +kernel
theorem dX12_fit_75 : decode cX12_fit 75 = .ok (.aload_n 0, 1) := by decide +kernel
theorem dX12_fit_76 : decode cX12_fit 76 = .ok (.iload_n 1, 1) := by decide +kernel
theorem dX12_fit_77 : decode cX12_fit 77 = .ok (.iload_n 2, 1) := by decide +kernel
theorem dX12_fit_78 : decode cX12_fit 78 = .ok (.invokevirtual 322, 3) := by decide +kernel
theorem dX12_fit_81 : decode cX12_fit 81 = .ok (.goto 9, 3) := by decide +kernel
theorem dX12_fit_84 : decode cX12_fit 84 = .ok (.aload_n 0, 1) := by decide +kernel
theorem dX12_fit_85 : decode cX12_fit 85 = .ok (.iload_n 1, 1) := by decide +kernel
theorem dX12_fit_86 : decode cX12_fit 86 = .ok (.iload_n 2, 1) := by decide +kernel
theorem dX12_fit_87 : decode cX12_fit 87 = .ok (.invokevirtual 319, 3) := by decide +kernel
theorem dX12_fit_90 : decode cX12_fit 90 = .ok (.ireturn, 1) := by decide +kernel
theorem dX12_plainTell_0 : decode cX12_plainTell 0 = .ok (.aload_n 0, 1) := by decide +kernel
theorem dX12_plainTell_1 : decode cX12_plainTell 1 = .ok (.bipush 13, 2) := by decide +kernel
theorem dX12_plainTell_3 : decode cX12_plainTell 3 = .ok (.invokevirtual 307, 3) := by decide +kernel
theorem dX12_plainTell_6 : decode cX12_plainTell 6 = .ok (.aload_n 0, 1) := by decide +kernel
theorem dX12_plainTell_7 : decode cX12_plainTell 7 = .ok (.iload_n 1, 1) := by decide +kernel
theorem dX12_plainTell_8 : decode cX12_plainTell 8 = .ok (.iload_n 2, 1) := by decide +kernel
theorem dX12_plainTell_9 : decode cX12_plainTell 9 = .ok (.invokevirtual 327, 3) := by decide +kernel
theorem dX12_plainTell_12 : decode cX12_plainTell 12 = .ok (.istore_n 3, 1) := by decide +kernel
theorem dX12_plainTell_13 : decode cX12_plainTell 13 = .ok (.iload_n 3, 1) := by decide +kernel
theorem dX12_plainTell_14 : decode cX12_plainTell 14 = .ok (.aload_n 0, 1) := by decide +kernel
theorem dX12_plainTell_15 : decode cX12_plainTell 15 = .ok (.iload_n 1, 1) := by decide +kernel
theorem dX12_plainTell_16 : decode cX12_plainTell 16 = .ok (.iload_n 2, 1) := by decide +kernel
theorem dX12_plainTell_17 : decode cX12_plainTell 17 = .ok (.invokevirtual 325, 3) := by decide +kernel
theorem dX12_plainTell_20 : decode cX12_plainTell 20 = .ok (.ixor, 1) := by decide +kernel
theorem dX12_plainTell_21 : decode cX12_plainTell 21 = .ok (.ireturn, 1) := by decide +kernel
theorem dX12_tell_0 : decode cX12_tell 0 = .ok (.aload_n 0, 1) := by decide +kernel
theorem dX12_tell_1 : decode cX12_tell 1 = .ok (.getfield 25, 3) := by decide +kernel
theorem dX12_tell_4 : decode cX12_tell 4 = .ok (.iload_n 1, 1) := by decide +kernel
theorem dX12_tell_5 : decode cX12_tell 5 = .ok (.iaload, 1) := by decide +kernel
theorem dX12_tell_6 : decode cX12_tell 6 = .ok (.iconst 3, 1) := by decide +kernel
theorem dX12_tell_7 : decode cX12_tell 7 = .ok (.if_icmp .eq 10, 3) := by decide +kernel
theorem dX12_tell_10 : decode cX12_tell 10 = .ok (.aload_n 0, 1) := by decide +kernel
theorem dX12_tell_11 : decode cX12_tell 11 = .ok (.iload_n 1, 1) := by decide +kernel
theorem dX12_tell_12 : decode cX12_tell 12 = .ok (.iload_n 2, 1) := by decide +kernel
theorem dX12_tell_13 : decode cX12_tell 13 = .ok (.invokevirtual 330, 3) := by decide +kernel
theorem dX12_tell_16 : decode cX12_tell 16 = .ok (.ireturn, 1) := by decide +kernel
theorem dX12_tell_17 : decode cX12_tell 17 = .ok (.aload_n 0, 1) := by decide +kernel
theorem dX12_tell_18 : decode cX12_tell 18 = .ok (.bipush 40, 2) := by decide +kernel
theorem dX12_tell_20 : decode cX12_tell 20 = .ok (.invokevirtual 307, 3) := by decide +kernel
theorem dX12_tell_23 : decode cX12_tell 23 = .ok (.aload_n 0, 1) := by decide +kernel
theorem dX12_tell_24 : decode cX12_tell 24 = .ok (.iload_n 1, 1) := by decide +kernel
theorem dX12_tell_25 : decode cX12_tell 25 = .ok (.iload_n 2, 1) := by decide +kernel
theorem dX12_tell_26 : decode cX12_tell 26 = .ok (.invokevirtual 325, 3) := by decide +kernel
theorem dX12_tell_29 : decode cX12_tell 29 = .ok (.istore_n 3, 1) := by decide +kernel
theorem dX12_tell_30 : decode cX12_tell 30 = .ok (.iload_n 3, 1) := by decide +kernel
theorem dX12_tell_31 : decode cX12_tell 31 = .ok (.aload_n 0, 1) := by decide +kernel
theorem dX12_tell_32 : decode cX12_tell 32 = .ok (.iload_n 1, 1) := by decide +kernel
theorem dX12_tell_33 : decode cX12_tell 33 = .ok (.iload_n 2, 1) := by decide +kernel
theorem dX12_tell_34 : decode cX12_tell 34 = .ok (.iconst 1, 1) := by decide +kernel
theorem dX12_tell_35 : decode cX12_tell 35 = .ok (.iadd, 1) := by decide +kernel
theorem dX12_tell_36 : decode cX12_tell 36 = .ok (.invokevirtual 330, 3) := by decide +kernel
theorem dX12_tell_39 : decode cX12_tell 39 = .ok (.isub, 1) := by decide +kernel
theorem dX12_tell_40 : decode cX12_tell 40 = .ok (.ireturn, 1) := by decide +kernel
theorem dX12_act_0 : decode cX12_act 0 = .ok (.aload_n 0, 1) := by decide +kernel
theorem dX12_act_1 : decode cX12_act 1 = .ok (.iload_n 1, 1) := by decide +kernel
theorem dX12_act_2 : decode cX12_act 2 = .ok (.invokevirtual 190, 3) := by decide +kernel
theorem dX12_act_5 : decode cX12_act 5 = .ok (.ifCond .eq 15, 3) := by decide +kernel
theorem dX12_act_8 : decode cX12_act 8 = .ok (.iload_n 2, 1) := by decide +kernel
theorem dX12_act_9 : decode cX12_act 9 = .ok (.i2l, 1) := by decide +kernel
theorem dX12_act_10 : decode cX12_act 10 = .ok (.lconst 0, 1) := by decide +kernel
theorem dX12_act_11 : decode cX12_act 11 = .ok (.ldc2_w 298, 3) := by decide +kernel
theorem dX12_act_14 : decode cX12_act 14 = .ok (.invokestatic 135, 3) := by decide +kernel
theorem dX12_act_17 : decode cX12_act 17 = .ok (.ifCond .ne 9, 3) := by decide +kernel
theorem dX12_act_20 : decode cX12_act 20 = .ok (.aload_n 0, 1) := by decide +kernel
theorem dX12_act_21 : decode cX12_act 21 = .ok (.iconst 1, 1) := by decide +kernel
theorem dX12_act_22 : decode cX12_act 22 = .ok (.invokevirtual 149, 3) := by decide +kernel
theorem dX12_act_25 : decode cX12_act 25 = .ok (.ireturn, 1) := by decide +kernel
theorem dX12_act_26 : decode cX12_act 26 = .ok (.aload_n 0, 1) := by decide +kernel
theorem dX12_act_27 : decode cX12_act 27 = .ok (.iconst 0, 1) := by decide +kernel
theorem dX12_act_28 : decode cX12_act 28 = .ok (.putfield 304, 3) := by decide +kernel
theorem dX12_act_31 : decode cX12_act 31 = .ok (.aload_n 0, 1) := by decide +kernel
theorem dX12_act_32 : decode cX12_act 32 = .ok (.iload_n 2, 1) := by decide +kernel
theorem dX12_act_33 : decode cX12_act 33 = .ok (.ifCond .ne 12, 3) := by decide +kernel
theorem dX12_act_36 : decode cX12_act 36 = .ok (.aload_n 0, 1) := by decide +kernel
theorem dX12_act_37 : decode cX12_act 37 = .ok (.iload_n 1, 1) := by decide +kernel
theorem dX12_act_38 : decode cX12_act 38 = .ok (.iload_n 3, 1) := by decide +kernel
theorem dX12_act_39 : decode cX12_act 39 = .ok (.invokevirtual 316, 3) := by decide +kernel
theorem dX12_act_42 : decode cX12_act 42 = .ok (.goto 37, 3) := by decide +kernel
theorem dX12_act_45 : decode cX12_act 45 = .ok (.iload_n 2, 1) := by decide +kernel
theorem dX12_act_46 : decode cX12_act 46 = .ok (.iconst 1, 1) := by decide +kernel
theorem dX12_act_47 : decode cX12_act 47 = .ok (.if_icmp .ne 12, 3) := by decide +kernel
theorem dX12_act_50 : decode cX12_act 50 = .ok (.aload_n 0, 1) := by decide +kernel
theorem dX12_act_51 : decode cX12_act 51 = .ok (.iload_n 1, 1) := by decide +kernel
theorem dX12_act_52 : decode cX12_act 52 = .ok (.iload_n 3, 1) := by decide +kernel
theorem dX12_act_53 : decode cX12_act 53 = .ok (.invokevirtual 327, 3) := by decide +kernel
theorem dX12_act_56 : decode cX12_act 56 = .ok (.goto 23, 3) := by decide +kernel
theorem dX12_act_59 : decode cX12_act 59 = .ok (.iload_n 2, 1) := by decide +kernel
theorem dX12_act_60 : decode cX12_act 60 = .ok (.iconst 2, 1) := by decide +kernel
theorem dX12_act_61 : decode cX12_act 61 = .ok (.if_icmp .ne 12, 3) := by decide +kernel
theorem dX12_act_64 : decode cX12_act 64 = .ok (.aload_n 0, 1) := by decide +kernel
theorem dX12_act_65 : decode cX12_act 65 = .ok (.iload_n 1, 1) := by decide +kernel
theorem dX12_act_66 : decode cX12_act 66 = .ok (.iload_n 3, 1) := by decide +kernel
theorem dX12_act_67 : decode cX12_act 67 = .ok (.invokevirtual 325, 3) := by decide +kernel
theorem dX12_act_70 : decode cX12_act 70 = .ok (.goto 9, 3) := by decide +kernel
theorem dX12_act_73 : decode cX12_act 73 = .ok (.aload_n 0, 1) := by decide +kernel
theorem dX12_act_74 : decode cX12_act 74 = .ok (.iload_n 1, 1) := by decide +kernel
theorem dX12_act_75 : decode cX12_act 75 = .ok (.iload_n 3, 1) := by decide +kernel
theorem dX12_act_76 : decode cX12_act 76 = .ok (.invokevirtual 333, 3) := by decide +kernel
theorem dX12_act_79 : decode cX12_act 79 = .ok (.invokevirtual 157, 3) := by decide +kernel
theorem dX12_act_82 : decode cX12_act 82 = .ok (.ireturn, 1) := by decide +kernel
theorem dX12_trace_0 : decode cX12_trace 0 = .ok (.iload_n 1, 1) := by decide +kernel
theorem dX12_trace_1 : decode cX12_trace 1 = .ok (.i2l, 1) := by decide +kernel
theorem dX12_trace_2 : decode cX12_trace 2 = .ok (.lconst 0, 1) := by decide +kernel
theorem dX12_trace_3 : decode cX12_trace 3 = .ok (.aload_n 0, 1) := by decide +kernel
theorem dX12_trace_4 : decode cX12_trace 4 = .ok (.getfield 304, 3) := by decide +kernel
theorem dX12_trace_7 : decode cX12_trace 7 = .ok (.bipush 50, 2) := by decide +kernel
theorem dX12_trace_9 : decode cX12_trace 9 = .ok (.if_icmp .ge 10, 3) := by decide +kernel
theorem dX12_trace_12 : decode cX12_trace 12 = .ok (.aload_n 0, 1) := by decide +kernel
theorem dX12_trace_13 : decode cX12_trace 13 = .ok (.getfield 304, 3) := by decide +kernel
theorem dX12_trace_16 : decode cX12_trace 16 = .ok (.goto 5, 3) := by decide +kernel
theorem dX12_trace_19 : decode cX12_trace 19 = .ok (.bipush 50, 2) := by decide +kernel
theorem dX12_trace_21 : decode cX12_trace 21 = .ok (.iconst 1, 1) := by decide +kernel
theorem dX12_trace_22 : decode cX12_trace 22 = .ok (.isub, 1) := by decide +kernel
theorem dX12_trace_23 : decode cX12_trace 23 = .ok (.i2l, 1) := by decide +kernel
theorem dX12_trace_24 : decode cX12_trace 24 = .ok (.invokestatic 135, 3) := by decide +kernel
theorem dX12_trace_27 : decode cX12_trace 27 = .ok (.ifCond .eq 12, 3) := by decide +kernel
theorem dX12_trace_30 : decode cX12_trace 30 = .ok (.aload_n 0, 1) := by decide +kernel
theorem dX12_trace_31 : decode cX12_trace 31 = .ok (.getfield 117, 3) := by decide +kernel
theorem dX12_trace_34 : decode cX12_trace 34 = .ok (.iload_n 1, 1) := by decide +kernel
theorem dX12_trace_35 : decode cX12_trace 35 = .ok (.iaload, 1) := by decide +kernel
theorem dX12_trace_36 : decode cX12_trace 36 = .ok (.goto 4, 3) := by decide +kernel
theorem dX12_trace_39 : decode cX12_trace 39 = .ok (.iconst (-1), 1) := by decide +kernel
theorem dX12_trace_40 : decode cX12_trace 40 = .ok (.ireturn, 1) := by decide +kernel
theorem dX12_sheet_0 : decode cX12_sheet 0 = .ok (.iload_n 1, 1) := by decide +kernel
theorem dX12_sheet_1 : decode cX12_sheet 1 = .ok (.i2l, 1) := by decide +kernel
theorem dX12_sheet_2 : decode cX12_sheet 2 = .ok (.lconst 0, 1) := by decide +kernel
theorem dX12_sheet_3 : decode cX12_sheet 3 = .ok (.ldc2_w 298, 3) := by decide +kernel
theorem dX12_sheet_6 : decode cX12_sheet 6 = .ok (.invokestatic 135, 3) := by decide +kernel
theorem dX12_sheet_9 : decode cX12_sheet 9 = .ok (.ifCond .eq 33, 3) := by decide +kernel
theorem dX12_sheet_12 : decode cX12_sheet 12 = .ok (.iload_n 2, 1) := by decide +kernel
theorem dX12_sheet_13 : decode cX12_sheet 13 = .ok (.i2l, 1) := by decide +kernel
theorem dX12_sheet_14 : decode cX12_sheet 14 = .ok (.ldc2_w 336, 3) := by decide +kernel
theorem dX12_sheet_17 : decode cX12_sheet 17 = .ok (.ldc2_w 145, 3) := by decide +kernel
theorem dX12_sheet_20 : decode cX12_sheet 20 = .ok (.invokestatic 135, 3) := by decide +kernel
theorem dX12_sheet_23 : decode cX12_sheet 23 = .ok (.ifCond .eq 19, 3) := by decide +kernel
theorem dX12_sheet_26 : decode cX12_sheet 26 = .ok (.iload_n 2, 1) := by decide +kernel
theorem dX12_sheet_27 : decode cX12_sheet 27 = .ok (.ifCond .lt 21, 3) := by decide +kernel
theorem dX12_sheet_30 : decode cX12_sheet 30 = .ok (.iload_n 3, 1) := by decide +kernel
theorem dX12_sheet_31 : decode cX12_sheet 31 = .ok (.i2l, 1) := by decide +kernel
theorem dX12_sheet_32 : decode cX12_sheet 32 = .ok (.lconst 0, 1) := by decide +kernel
theorem dX12_sheet_33 : decode cX12_sheet 33 = .ok (.ldc2_w 338, 3) := by decide +kernel
theorem dX12_sheet_36 : decode cX12_sheet 36 = .ok (.invokestatic 135, 3) := by decide +kernel
theorem dX12_sheet_39 : decode cX12_sheet 39 = .ok (.ifCond .ne 9, 3) := by decide +kernel
theorem dX12_sheet_42 : decode cX12_sheet 42 = .ok (.aload_n 0, 1) := by decide +kernel
theorem dX12_sheet_43 : decode cX12_sheet 43 = .ok (.iconst 1, 1) := by decide +kernel
theorem dX12_sheet_44 : decode cX12_sheet 44 = .ok (.invokevirtual 149, 3) := by decide +kernel
theorem dX12_sheet_47 : decode cX12_sheet 47 = .ok (.ireturn, 1) := by decide +kernel
theorem dX12_sheet_48 : decode cX12_sheet 48 = .ok (.aload_n 0, 1) := by decide +kernel
theorem dX12_sheet_49 : decode cX12_sheet 49 = .ok (.getfield 120, 3) := by decide +kernel
theorem dX12_sheet_52 : decode cX12_sheet 52 = .ok (.iload_n 1, 1) := by decide +kernel
theorem dX12_sheet_53 : decode cX12_sheet 53 = .ok (.iload_n 2, 1) := by decide +kernel
theorem dX12_sheet_54 : decode cX12_sheet 54 = .ok (.iconst 1, 1) := by decide +kernel
theorem dX12_sheet_55 : decode cX12_sheet 55 = .ok (.iadd, 1) := by decide +kernel
theorem dX12_sheet_56 : decode cX12_sheet 56 = .ok (.iastore, 1) := by decide +kernel
theorem dX12_sheet_57 : decode cX12_sheet 57 = .ok (.aload_n 0, 1) := by decide +kernel
theorem dX12_sheet_58 : decode cX12_sheet 58 = .ok (.getfield 123, 3) := by decide +kernel
theorem dX12_sheet_61 : decode cX12_sheet 61 = .ok (.iload_n 1, 1) := by decide +kernel
theorem dX12_sheet_62 : decode cX12_sheet 62 = .ok (.iload_n 2, 1) := by decide +kernel
theorem dX12_sheet_63 : decode cX12_sheet 63 = .ok (.ifCond .ge 7, 3) := by decide +kernel
theorem dX12_sheet_66 : decode cX12_sheet 66 = .ok (.iconst 0, 1) := by decide +kernel
theorem dX12_sheet_67 : decode cX12_sheet 67 = .ok (.goto 4, 3) := by decide +kernel
theorem dX12_sheet_70 : decode cX12_sheet 70 = .ok (.iload_n 3, 1) := by decide +kernel
theorem dX12_sheet_71 : decode cX12_sheet 71 = .ok (.iastore, 1) := by decide +kernel
theorem dX12_sheet_72 : decode cX12_sheet 72 = .ok (.bipush 40, 2) := by decide +kernel
theorem dX12_sheet_74 : decode cX12_sheet 74 = .ok (.iload_n 1, 1) := by decide +kernel
theorem dX12_sheet_75 : decode cX12_sheet 75 = .ok (.imul, 1) := by decide +kernel
theorem dX12_sheet_76 : decode cX12_sheet 76 = .ok (.istore 4, 2) := by decide +kernel
theorem dX12_sheet_78 : decode cX12_sheet 78 = .ok (.iload 4, 2) := by decide +kernel
theorem dX12_sheet_80 : decode cX12_sheet 80 = .ok (.bipush 40, 2) := by decide +kernel
theorem dX12_sheet_82 : decode cX12_sheet 82 = .ok (.iload_n 1, 1) := by decide +kernel
theorem dX12_sheet_83 : decode cX12_sheet 83 = .ok (.imul, 1) := by decide +kernel
theorem dX12_sheet_84 : decode cX12_sheet 84 = .ok (.bipush 40, 2) := by decide +kernel
theorem dX12_sheet_86 : decode cX12_sheet 86 = .ok (.iadd, 1) := by decide +kernel
theorem dX12_sheet_87 : decode cX12_sheet 87 = .ok (.if_icmp .ge 17, 3) := by decide +kernel
theorem dX12_sheet_90 : decode cX12_sheet 90 = .ok (.aload_n 0, 1) := by decide +kernel
theorem dX12_sheet_91 : decode cX12_sheet 91 = .ok (.getfield 126, 3) := by decide +kernel
theorem dX12_sheet_94 : decode cX12_sheet 94 = .ok (.iload 4, 2) := by decide +kernel
theorem dX12_sheet_96 : decode cX12_sheet 96 = .ok (.iconst 0, 1) := by decide +kernel
theorem dX12_sheet_97 : decode cX12_sheet 97 = .ok (.iastore, 1) := by decide +kernel
theorem dX12_sheet_98 : decode cX12_sheet 98 = .ok (.iinc 4 1, 3) := by decide +kernel
theorem dX12_sheet_101 : decode cX12_sheet 101 = .ok (.goto (-23), 3) := by decide +kernel
theorem dX12_sheet_104 : decode cX12_sheet 104 = .ok (.aload_n 0, 1) := by decide +kernel
theorem dX12_sheet_105 : decode cX12_sheet 105 = .ok (.iconst 1, 1) := by decide +kernel
theorem dX12_sheet_106 : decode cX12_sheet 106 = .ok (.invokevirtual 157, 3) := by decide +kernel
theorem dX12_sheet_109 : decode cX12_sheet 109 = .ok (.ireturn, 1) := by decide +kernel
theorem dX12_byteOf_0 : decode cX12_byteOf 0 = .ok (.iload_n 0, 1) := by decide +kernel
theorem dX12_byteOf_1 : decode cX12_byteOf 1 = .ok (.sipush 255, 3) := by decide +kernel
theorem dX12_byteOf_4 : decode cX12_byteOf 4 = .ok (.iand, 1) := by decide +kernel
theorem dX12_byteOf_5 : decode cX12_byteOf 5 = .ok (.istore_n 1, 1) := by decide +kernel
theorem dX12_byteOf_6 : decode cX12_byteOf 6 = .ok (.iload_n 1, 1) := by decide +kernel
theorem dX12_byteOf_7 : decode cX12_byteOf 7 = .ok (.bipush 127, 2) := by decide +kernel
theorem dX12_byteOf_9 : decode cX12_byteOf 9 = .ok (.if_icmp .le 11, 3) := by decide +kernel
theorem dX12_byteOf_12 : decode cX12_byteOf 12 = .ok (.iload_n 1, 1) := by decide +kernel
theorem dX12_byteOf_13 : decode cX12_byteOf 13 = .ok (.sipush 256, 3) := by decide +kernel
theorem dX12_byteOf_16 : decode cX12_byteOf 16 = .ok (.isub, 1) := by decide +kernel
theorem dX12_byteOf_17 : decode cX12_byteOf 17 = .ok (.goto 4, 3) := by decide +kernel
theorem dX12_byteOf_20 : decode cX12_byteOf 20 = .ok (.iload_n 1, 1) := by decide +kernel
theorem dX12_byteOf_21 : decode cX12_byteOf 21 = .ok (.ireturn, 1) := by decide +kernel
theorem dX12_cell_0 : decode cX12_cell 0 = .ok (.iload_n 1, 1) := by decide +kernel
theorem dX12_cell_1 : decode cX12_cell 1 = .ok (.i2l, 1) := by decide +kernel
theorem dX12_cell_2 : decode cX12_cell 2 = .ok (.lconst 0, 1) := by decide +kernel
theorem dX12_cell_3 : decode cX12_cell 3 = .ok (.ldc2_w 298, 3) := by decide +kernel
theorem dX12_cell_6 : decode cX12_cell 6 = .ok (.invokestatic 135, 3) := by decide +kernel
theorem dX12_cell_9 : decode cX12_cell 9 = .ok (.ifCond .eq 17, 3) := by decide +kernel
theorem dX12_cell_12 : decode cX12_cell 12 = .ok (.iload_n 3, 1) := by decide +kernel
theorem dX12_cell_13 : decode cX12_cell 13 = .ok (.i2l, 1) := by decide +kernel
theorem dX12_cell_14 : decode cX12_cell 14 = .ok (.ldc2_w 173, 3) := by decide +kernel
theorem dX12_cell_17 : decode cX12_cell 17 = .ok (.ldc2_w 175, 3) := by decide +kernel
theorem dX12_cell_20 : decode cX12_cell 20 = .ok (.invokestatic 135, 3) := by decide +kernel
theorem dX12_cell_23 : decode cX12_cell 23 = .ok (.ifCond .ne 9, 3) := by decide +kernel
theorem dX12_cell_26 : decode cX12_cell 26 = .ok (.aload_n 0, 1) := by decide +kernel
theorem dX12_cell_27 : decode cX12_cell 27 = .ok (.iconst 1, 1) := by decide +kernel
theorem dX12_cell_28 : decode cX12_cell 28 = .ok (.invokevirtual 149, 3) := by decide +kernel
theorem dX12_cell_31 : decode cX12_cell 31 = .ok (.ireturn, 1) := by decide +kernel
theorem dX12_cell_32 : decode cX12_cell 32 = .ok (.aload_n 0, 1) := by decide +kernel
theorem dX12_cell_33 : decode cX12_cell 33 = .ok (.getfield 120, 3) := by decide +kernel
theorem dX12_cell_36 : decode cX12_cell 36 = .ok (.iload_n 1, 1) := by decide +kernel
theorem dX12_cell_37 : decode cX12_cell 37 = .ok (.iaload, 1) := by decide +kernel
theorem dX12_cell_38 : decode cX12_cell 38 = .ok (.ifCond .ne 10, 3) := by decide +kernel
theorem dX12_cell_41 : decode cX12_cell 41 = .ok (.aload_n 0, 1) := by decide +kernel
theorem dX12_cell_42 : decode cX12_cell 42 = .ok (.bipush 10, 2) := by decide +kernel
theorem dX12_cell_44 : decode cX12_cell 44 = .ok (.invokevirtual 149, 3) := by decide +kernel
theorem dX12_cell_47 : decode cX12_cell 47 = .ok (.ireturn, 1) := by decide +kernel
theorem dX12_cell_48 : decode cX12_cell 48 = .ok (.iload_n 2, 1) := by decide +kernel
theorem dX12_cell_49 : decode cX12_cell 49 = .ok (.i2l, 1) := by decide +kernel
theorem dX12_cell_50 : decode cX12_cell 50 = .ok (.lconst 0, 1) := by decide +kernel
theorem dX12_cell_51 : decode cX12_cell 51 = .ok (.aload_n 0, 1) := by decide +kernel
theorem dX12_cell_52 : decode cX12_cell 52 = .ok (.getfield 123, 3) := by decide +kernel
theorem dX12_cell_55 : decode cX12_cell 55 = .ok (.iload_n 1, 1) := by decide +kernel
theorem dX12_cell_56 : decode cX12_cell 56 = .ok (.iaload, 1) := by decide +kernel
theorem dX12_cell_57 : decode cX12_cell 57 = .ok (.iconst 1, 1) := by decide +kernel
theorem dX12_cell_58 : decode cX12_cell 58 = .ok (.isub, 1) := by decide +kernel
theorem dX12_cell_59 : decode cX12_cell 59 = .ok (.i2l, 1) := by decide +kernel
theorem dX12_cell_60 : decode cX12_cell 60 = .ok (.invokestatic 135, 3) := by decide +kernel
theorem dX12_cell_63 : decode cX12_cell 63 = .ok (.ifCond .ne 10, 3) := by decide +kernel
theorem dX12_cell_66 : decode cX12_cell 66 = .ok (.aload_n 0, 1) := by decide +kernel
theorem dX12_cell_67 : decode cX12_cell 67 = .ok (.bipush 12, 2) := by decide +kernel
theorem dX12_cell_69 : decode cX12_cell 69 = .ok (.invokevirtual 149, 3) := by decide +kernel
theorem dX12_cell_72 : decode cX12_cell 72 = .ok (.ireturn, 1) := by decide +kernel
theorem dX12_cell_73 : decode cX12_cell 73 = .ok (.aload_n 0, 1) := by decide +kernel
theorem dX12_cell_74 : decode cX12_cell 74 = .ok (.getfield 126, 3) := by decide +kernel
theorem dX12_cell_77 : decode cX12_cell 77 = .ok (.bipush 40, 2) := by decide +kernel
theorem dX12_cell_79 : decode cX12_cell 79 = .ok (.iload_n 1, 1) := by decide +kernel
theorem dX12_cell_80 : decode cX12_cell 80 = .ok (.imul, 1) := by decide +kernel
theorem dX12_cell_81 : decode cX12_cell 81 = .ok (.iload_n 2, 1) := by decide +kernel
theorem dX12_cell_82 : decode cX12_cell 82 = .ok (.iadd, 1) := by decide +kernel
theorem dX12_cell_83 : decode cX12_cell 83 = .ok (.aload_n 0, 1) := by decide +kernel
theorem dX12_cell_84 : decode cX12_cell 84 = .ok (.getfield 120, 3) := by decide +kernel
theorem dX12_cell_87 : decode cX12_cell 87 = .ok (.iload_n 1, 1) := by decide +kernel
theorem dX12_cell_88 : decode cX12_cell 88 = .ok (.iaload, 1) := by decide +kernel
theorem dX12_cell_89 : decode cX12_cell 89 = .ok (.iconst 1, 1) := by decide +kernel
theorem dX12_cell_90 : decode cX12_cell 90 = .ok (.if_icmp .ne 10, 3) := by decide +kernel
theorem dX12_cell_93 : decode cX12_cell 93 = .ok (.iload_n 3, 1) := by decide +kernel
theorem dX12_cell_94 : decode cX12_cell 94 = .ok (.invokestatic 340, 3) := by decide +kernel
theorem dX12_cell_97 : decode cX12_cell 97 = .ok (.goto 4, 3) := by decide +kernel
theorem dX12_cell_100 : decode cX12_cell 100 = .ok (.iload_n 3, 1) := by decide +kernel
theorem dX12_cell_101 : decode cX12_cell 101 = .ok (.iastore, 1) := by decide +kernel
theorem dX12_cell_102 : decode cX12_cell 102 = .ok (.aload_n 0, 1) := by decide +kernel
theorem dX12_cell_103 : decode cX12_cell 103 = .ok (.iconst 1, 1) := by decide +kernel
theorem dX12_cell_104 : decode cX12_cell 104 = .ok (.invokevirtual 157, 3) := by decide +kernel
theorem dX12_cell_107 : decode cX12_cell 107 = .ok (.ireturn, 1) := by decide +kernel
theorem dX12_row_0 : decode cX12_row 0 = .ok (.iload_n 1, 1) := by decide +kernel
theorem dX12_row_1 : decode cX12_row 1 = .ok (.i2l, 1) := by decide +kernel
theorem dX12_row_2 : decode cX12_row 2 = .ok (.lconst 0, 1) := by decide +kernel
theorem dX12_row_3 : decode cX12_row 3 = .ok (.ldc2_w 298, 3) := by decide +kernel
theorem dX12_row_6 : decode cX12_row 6 = .ok (.invokestatic 135, 3) := by decide +kernel
theorem dX12_row_9 : decode cX12_row 9 = .ok (.ifCond .eq 15, 3) := by decide +kernel
theorem dX12_row_12 : decode cX12_row 12 = .ok (.iload_n 2, 1) := by decide +kernel
theorem dX12_row_13 : decode cX12_row 13 = .ok (.i2l, 1) := by decide +kernel
theorem dX12_row_14 : decode cX12_row 14 = .ok (.lconst 0, 1) := by decide +kernel
theorem dX12_row_15 : decode cX12_row 15 = .ok (.ldc2_w 145, 3) := by decide +kernel
theorem dX12_row_18 : decode cX12_row 18 = .ok (.invokestatic 135, 3) := by decide +kernel
theorem dX12_row_21 : decode cX12_row 21 = .ok (.ifCond .ne 9, 3) := by decide +kernel
theorem dX12_row_24 : decode cX12_row 24 = .ok (.aload_n 0, 1) := by decide +kernel
theorem dX12_row_25 : decode cX12_row 25 = .ok (.iconst 1, 1) := by decide +kernel
theorem dX12_row_26 : decode cX12_row 26 = .ok (.invokevirtual 149, 3) := by decide +kernel
theorem dX12_row_29 : decode cX12_row 29 = .ok (.ireturn, 1) := by decide +kernel
theorem dX12_row_30 : decode cX12_row 30 = .ok (.aload_n 0, 1) := by decide +kernel
theorem dX12_row_31 : decode cX12_row 31 = .ok (.getfield 70, 3) := by decide +kernel
theorem dX12_row_34 : decode cX12_row 34 = .ok (.iconst 1, 1) := by decide +kernel
theorem dX12_row_35 : decode cX12_row 35 = .ok (.iaload, 1) := by decide +kernel
theorem dX12_row_36 : decode cX12_row 36 = .ok (.bipush 30, 2) := by decide +kernel
theorem dX12_row_38 : decode cX12_row 38 = .ok (.if_icmp .ne 9, 3) := by decide +kernel
theorem dX12_row_41 : decode cX12_row 41 = .ok (.aload_n 0, 1) := by decide +kernel
theorem dX12_row_42 : decode cX12_row 42 = .ok (.iconst 2, 1) := by decide +kernel
theorem dX12_row_43 : decode cX12_row 43 = .ok (.invokevirtual 149, 3) := by decide +kernel
theorem dX12_row_46 : decode cX12_row 46 = .ok (.ireturn, 1) := by decide +kernel
theorem dX12_row_47 : decode cX12_row 47 = .ok (.aload_n 0, 1) := by decide +kernel
theorem dX12_row_48 : decode cX12_row 48 = .ok (.getfield 120, 3) := by decide +kernel
theorem dX12_row_51 : decode cX12_row 51 = .ok (.iload_n 1, 1) := by decide +kernel
theorem dX12_row_52 : decode cX12_row 52 = .ok (.iaload, 1) := by decide +kernel
theorem dX12_row_53 : decode cX12_row 53 = .ok (.ifCond .ne 10, 3) := by decide +kernel
theorem dX12_row_56 : decode cX12_row 56 = .ok (.aload_n 0, 1) := by decide +kernel
theorem dX12_row_57 : decode cX12_row 57 = .ok (.bipush 10, 2) := by decide +kernel
theorem dX12_row_59 : decode cX12_row 59 = .ok (.invokevirtual 149, 3) := by decide +kernel
theorem dX12_row_62 : decode cX12_row 62 = .ok (.ireturn, 1) := by decide +kernel
theorem dX12_row_63 : decode cX12_row 63 = .ok (.aload_n 0, 1) := by decide +kernel
theorem dX12_row_64 : decode cX12_row 64 = .ok (.getfield 120, 3) := by decide +kernel
theorem dX12_row_67 : decode cX12_row 67 = .ok (.iload_n 1, 1) := by decide +kernel
theorem dX12_row_68 : decode cX12_row 68 = .ok (.iaload, 1) := by decide +kernel
theorem dX12_row_69 : decode cX12_row 69 = .ok (.iload_n 2, 1) := by decide +kernel
theorem dX12_row_70 : decode cX12_row 70 = .ok (.iconst 1, 1) := by decide +kernel
theorem dX12_row_71 : decode cX12_row 71 = .ok (.iadd, 1) := by decide +kernel
theorem dX12_row_72 : decode cX12_row 72 = .ok (.if_icmp .eq 10, 3) := by decide +kernel
theorem dX12_row_75 : decode cX12_row 75 = .ok (.aload_n 0, 1) := by decide +kernel
theorem dX12_row_76 : decode cX12_row 76 = .ok (.bipush 11, 2) := by decide +kernel
theorem dX12_row_78 : decode cX12_row 78 = .ok (.invokevirtual 149, 3) := by decide +kernel
theorem dX12_row_81 : decode cX12_row 81 = .ok (.ireturn, 1) := by decide +kernel
theorem dX12_row_82 : decode cX12_row 82 = .ok (.iload_n 3, 1) := by decide +kernel
theorem dX12_row_83 : decode cX12_row 83 = .ok (.ifCond .lt 20, 3) := by decide +kernel
theorem dX12_row_86 : decode cX12_row 86 = .ok (.iload_n 3, 1) := by decide +kernel
theorem dX12_row_87 : decode cX12_row 87 = .ok (.i2l, 1) := by decide +kernel
theorem dX12_row_88 : decode cX12_row 88 = .ok (.ldc2_w 298, 3) := by decide +kernel
theorem dX12_row_91 : decode cX12_row 91 = .ok (.ladd, 1) := by decide +kernel
theorem dX12_row_92 : decode cX12_row 92 = .ok (.aload_n 0, 1) := by decide +kernel
theorem dX12_row_93 : decode cX12_row 93 = .ok (.getfield 123, 3) := by decide +kernel
theorem dX12_row_96 : decode cX12_row 96 = .ok (.iload_n 1, 1) := by decide +kernel
theorem dX12_row_97 : decode cX12_row 97 = .ok (.iaload, 1) := by decide +kernel
theorem dX12_row_98 : decode cX12_row 98 = .ok (.i2l, 1) := by decide +kernel
theorem dX12_row_99 : decode cX12_row 99 = .ok (.lcmp, 1) := by decide +kernel
theorem dX12_row_100 : decode cX12_row 100 = .ok (.ifCond .le 10, 3) := by decide +kernel
theorem dX12_row_103 : decode cX12_row 103 = .ok (.aload_n 0, 1) := by decide +kernel
theorem dX12_row_104 : decode cX12_row 104 = .ok (.bipush 12, 2) := by decide +kernel
theorem dX12_row_106 : decode cX12_row 106 = .ok (.invokevirtual 149, 3) := by decide +kernel
theorem dX12_row_109 : decode cX12_row 109 = .ok (.ireturn, 1) := by decide +kernel
theorem dX12_row_110 : decode cX12_row 110 = .ok (.bipush 40, 2) := by decide +kernel
theorem dX12_row_112 : decode cX12_row 112 = .ok (.iload_n 1, 1) := by decide +kernel
theorem dX12_row_113 : decode cX12_row 113 = .ok (.imul, 1) := by decide +kernel
theorem dX12_row_114 : decode cX12_row 114 = .ok (.iload_n 3, 1) := by decide +kernel
theorem dX12_row_115 : decode cX12_row 115 = .ok (.iadd, 1) := by decide +kernel
theorem dX12_row_116 : decode cX12_row 116 = .ok (.istore 4, 2) := by decide +kernel
theorem dX12_row_118 : decode cX12_row 118 = .ok (.aload_n 0, 1) := by decide +kernel
theorem dX12_row_119 : decode cX12_row 119 = .ok (.aload_n 0, 1) := by decide +kernel
theorem dX12_row_120 : decode cX12_row 120 = .ok (.getfield 126, 3) := by decide +kernel
theorem dX12_row_123 : decode cX12_row 123 = .ok (.iload 4, 2) := by decide +kernel
theorem dX12_row_125 : decode cX12_row 125 = .ok (.iaload, 1) := by decide +kernel
theorem dX12_row_126 : decode cX12_row 126 = .ok (.invokevirtual 170, 3) := by decide +kernel
theorem dX12_row_129 : decode cX12_row 129 = .ok (.ifCond .eq 45, 3) := by decide +kernel
theorem dX12_row_132 : decode cX12_row 132 = .ok (.aload_n 0, 1) := by decide +kernel
theorem dX12_row_133 : decode cX12_row 133 = .ok (.getfield 126, 3) := by decide +kernel
theorem dX12_row_136 : decode cX12_row 136 = .ok (.iload 4, 2) := by decide +kernel
theorem dX12_row_138 : decode cX12_row 138 = .ok (.iconst 1, 1) := by decide +kernel
theorem dX12_row_139 : decode cX12_row 139 = .ok (.iadd, 1) := by decide +kernel
theorem dX12_row_140 : decode cX12_row 140 = .ok (.iaload, 1) := by decide +kernel
theorem dX12_row_141 : decode cX12_row 141 = .ok (.i2l, 1) := by decide +kernel
theorem dX12_row_142 : decode cX12_row 142 = .ok (.ldc2_w 173, 3) := by decide +kernel
theorem dX12_row_145 : decode cX12_row 145 = .ok (.ldc2_w 175, 3) := by decide +kernel
theorem dX12_row_148 : decode cX12_row 148 = .ok (.invokestatic 135, 3) := by decide +kernel
theorem dX12_row_151 : decode cX12_row 151 = .ok (.ifCond .eq 23, 3) := by decide +kernel
theorem dX12_row_154 : decode cX12_row 154 = .ok (.aload_n 0, 1) := by decide +kernel
theorem dX12_row_155 : decode cX12_row 155 = .ok (.getfield 126, 3) := by decide +kernel
theorem dX12_row_158 : decode cX12_row 158 = .ok (.iload 4, 2) := by decide +kernel
theorem dX12_row_160 : decode cX12_row 160 = .ok (.iconst 2, 1) := by decide +kernel
theorem dX12_row_161 : decode cX12_row 161 = .ok (.iadd, 1) := by decide +kernel
theorem dX12_row_162 : decode cX12_row 162 = .ok (.iaload, 1) := by decide +kernel
theorem dX12_row_163 : decode cX12_row 163 = .ok (.i2l, 1) := by decide +kernel
theorem dX12_row_164 : decode cX12_row 164 = .ok (.lconst 0, 1) := by decide +kernel
theorem dX12_row_165 : decode cX12_row 165 = .ok (.ldc2_w 188, 3) := by decide +kernel
theorem dX12_row_168 : decode cX12_row 168 = .ok (.invokestatic 135, 3) := by decide +kernel
theorem dX12_row_171 : decode cX12_row 171 = .ok (.ifCond .ne 9, 3) := by decide +kernel
theorem dX12_row_174 : decode cX12_row 174 = .ok (.aload_n 0, 1) := by decide +kernel
theorem dX12_row_175 : decode cX12_row 175 = .ok (.iconst 3, 1) := by decide +kernel
theorem dX12_row_176 : decode cX12_row 176 = .ok (.invokevirtual 149, 3) := by decide +kernel
theorem dX12_row_179 : decode cX12_row 179 = .ok (.ireturn, 1) := by decide +kernel
theorem dX12_row_180 : decode cX12_row 180 = .ok (.aload_n 0, 1) := by decide +kernel
theorem dX12_row_181 : decode cX12_row 181 = .ok (.iconst 0, 1) := by decide +kernel
theorem dX12_row_182 : decode cX12_row 182 = .ok (.aload_n 0, 1) := by decide +kernel
theorem dX12_row_183 : decode cX12_row 183 = .ok (.getfield 126, 3) := by decide +kernel
theorem dX12_row_186 : decode cX12_row 186 = .ok (.iload 4, 2) := by decide +kernel
theorem dX12_row_188 : decode cX12_row 188 = .ok (.iaload, 1) := by decide +kernel
theorem dX12_row_189 : decode cX12_row 189 = .ok (.bipush 16, 2) := by decide +kernel
theorem dX12_row_191 : decode cX12_row 191 = .ok (.aload_n 0, 1) := by decide +kernel
theorem dX12_row_192 : decode cX12_row 192 = .ok (.getfield 126, 3) := by decide +kernel
theorem dX12_row_195 : decode cX12_row 195 = .ok (.iload 4, 2) := by decide +kernel
theorem dX12_row_197 : decode cX12_row 197 = .ok (.iconst 2, 1) := by decide +kernel
theorem dX12_row_198 : decode cX12_row 198 = .ok (.iadd, 1) := by decide +kernel
theorem dX12_row_199 : decode cX12_row 199 = .ok (.iaload, 1) := by decide +kernel
theorem dX12_row_200 : decode cX12_row 200 = .ok (.imul, 1) := by decide +kernel
theorem dX12_row_201 : decode cX12_row 201 = .ok (.aload_n 0, 1) := by decide +kernel
theorem dX12_row_202 : decode cX12_row 202 = .ok (.getfield 126, 3) := by decide +kernel
theorem dX12_row_205 : decode cX12_row 205 = .ok (.iload 4, 2) := by decide +kernel
theorem dX12_row_207 : decode cX12_row 207 = .ok (.iconst 1, 1) := by decide +kernel
theorem dX12_row_208 : decode cX12_row 208 = .ok (.iadd, 1) := by decide +kernel
theorem dX12_row_209 : decode cX12_row 209 = .ok (.iaload, 1) := by decide +kernel
theorem dX12_row_210 : decode cX12_row 210 = .ok (.iconst (-1), 1) := by decide +kernel
theorem dX12_row_211 : decode cX12_row 211 = .ok (.iconst 0, 1) := by decide +kernel
theorem dX12_row_212 : decode cX12_row 212 = .ok (.iconst 0, 1) := by decide +kernel
theorem dX12_row_213 : decode cX12_row 213 = .ok (.invokevirtual 182, 3) := by decide +kernel
theorem dX12_row_216 : decode cX12_row 216 = .ok (.ireturn, 1) := by decide +kernel
theorem dX12_modulo_0 : decode cX12_modulo 0 = .ok (.iload_n 0, 1) := by decide +kernel
theorem dX12_modulo_1 : decode cX12_modulo 1 = .ok (.iload_n 1, 1) := by decide +kernel
theorem dX12_modulo_2 : decode cX12_modulo 2 = .ok (.irem, 1) := by decide +kernel
theorem dX12_modulo_3 : decode cX12_modulo 3 = .ok (.iload_n 1, 1) := by decide +kernel
theorem dX12_modulo_4 : decode cX12_modulo 4 = .ok (.iadd, 1) := by decide +kernel
theorem dX12_modulo_5 : decode cX12_modulo 5 = .ok (.iload_n 1, 1) := by decide +kernel
theorem dX12_modulo_6 : decode cX12_modulo 6 = .ok (.irem, 1) := by decide +kernel
theorem dX12_modulo_7 : decode cX12_modulo 7 = .ok (.ireturn, 1) := by decide +kernel
theorem dX12_forge_0 : decode cX12_forge 0 = .ok (.iload_n 1, 1) := by decide +kernel
theorem dX12_forge_1 : decode cX12_forge 1 = .ok (.i2l, 1) := by decide +kernel
theorem dX12_forge_2 : decode cX12_forge 2 = .ok (.lconst 0, 1) := by decide +kernel
theorem dX12_forge_3 : decode cX12_forge 3 = .ok (.ldc2_w 343, 3) := by decide +kernel
theorem dX12_forge_6 : decode cX12_forge 6 = .ok (.invokestatic 135, 3) := by decide +kernel
theorem dX12_forge_9 : decode cX12_forge 9 = .ok (.ifCond .eq 31, 3) := by decide +kernel
theorem dX12_forge_12 : decode cX12_forge 12 = .ok (.iload_n 2, 1) := by decide +kernel
theorem dX12_forge_13 : decode cX12_forge 13 = .ok (.i2l, 1) := by decide +kernel
theorem dX12_forge_14 : decode cX12_forge 14 = .ok (.ldc2_w 345, 3) := by decide +kernel
theorem dX12_forge_17 : decode cX12_forge 17 = .ok (.ldc2_w 347, 3) := by decide +kernel
theorem dX12_forge_20 : decode cX12_forge 20 = .ok (.invokestatic 135, 3) := by decide +kernel
theorem dX12_forge_23 : decode cX12_forge 23 = .ok (.ifCond .eq 17, 3) := by decide +kernel
theorem dX12_forge_26 : decode cX12_forge 26 = .ok (.iload_n 3, 1) := by decide +kernel
theorem dX12_forge_27 : decode cX12_forge 27 = .ok (.i2l, 1) := by decide +kernel
theorem dX12_forge_28 : decode cX12_forge 28 = .ok (.ldc2_w 345, 3) := by decide +kernel
theorem dX12_forge_31 : decode cX12_forge 31 = .ok (.ldc2_w 347, 3) := by decide +kernel
theorem dX12_forge_34 : decode cX12_forge 34 = .ok (.invokestatic 135, 3) := by decide +kernel
theorem dX12_forge_37 : decode cX12_forge 37 = .ok (.ifCond .ne 9, 3) := by decide +kernel
theorem dX12_forge_40 : decode cX12_forge 40 = .ok (.aload_n 0, 1) := by decide +kernel
theorem dX12_forge_41 : decode cX12_forge 41 = .ok (.iconst 1, 1) := by decide +kernel
theorem dX12_forge_42 : decode cX12_forge 42 = .ok (.invokevirtual 149, 3) := by decide +kernel
theorem dX12_forge_45 : decode cX12_forge 45 = .ok (.ireturn, 1) := by decide +kernel
theorem dX12_forge_46 : decode cX12_forge 46 = .ok (.iload_n 3, 1) := by decide +kernel
theorem dX12_forge_47 : decode cX12_forge 47 = .ok (.bipush 30, 2) := by decide +kernel
theorem dX12_forge_49 : decode cX12_forge 49 = .ok (.invokestatic 349, 3) := by decide +kernel
theorem dX12_forge_52 : decode cX12_forge 52 = .ok (.istore 4, 2) := by decide +kernel
theorem dX12_forge_54 : decode cX12_forge 54 = .ok (.iload_n 3, 1) := by decide +kernel
theorem dX12_forge_55 : decode cX12_forge 55 = .ok (.iconst 4, 1) := by decide +kernel
theorem dX12_forge_56 : decode cX12_forge 56 = .ok (.invokestatic 349, 3) := by decide +kernel
theorem dX12_forge_59 : decode cX12_forge 59 = .ok (.istore 5, 2) := by decide +kernel
theorem dX12_forge_61 : decode cX12_forge 61 = .ok (.iload_n 1, 1) := by decide +kernel
theorem dX12_forge_62 : decode cX12_forge 62 = .ok (.tableswitch 307 0 5 #[38, 130, 149, 229, 237, 284], 38) := by decide +kernel
theorem dX12_forge_100 : decode cX12_forge 100 = .ok (.iload_n 2, 1) := by decide +kernel
theorem dX12_forge_101 : decode cX12_forge 101 = .ok (.bipush 7, 2) := by decide +kernel
theorem dX12_forge_103 : decode cX12_forge 103 = .ok (.invokestatic 349, 3) := by decide +kernel
theorem dX12_forge_106 : decode cX12_forge 106 = .ok (.istore 6, 2) := by decide +kernel
theorem dX12_forge_108 : decode cX12_forge 108 = .ok (.aload_n 0, 1) := by decide +kernel
theorem dX12_forge_109 : decode cX12_forge 109 = .ok (.iload 4, 2) := by decide +kernel
theorem dX12_forge_111 : decode cX12_forge 111 = .ok (.invokevirtual 190, 3) := by decide +kernel
theorem dX12_forge_114 : decode cX12_forge 114 = .ok (.ifCond .ne 10, 3) := by decide +kernel
theorem dX12_forge_117 : decode cX12_forge 117 = .ok (.aload_n 0, 1) := by decide +kernel
theorem dX12_forge_118 : decode cX12_forge 118 = .ok (.bipush 10, 2) := by decide +kernel
theorem dX12_forge_120 : decode cX12_forge 120 = .ok (.invokevirtual 149, 3) := by decide +kernel
theorem dX12_forge_123 : decode cX12_forge 123 = .ok (.ireturn, 1) := by decide +kernel
theorem dX12_forge_124 : decode cX12_forge 124 = .ok (.iload 6, 2) := by decide +kernel
theorem dX12_forge_126 : decode cX12_forge 126 = .ok (.ifCond .eq 33, 3) := by decide +kernel
theorem dX12_forge_129 : decode cX12_forge 129 = .ok (.aload_n 0, 1) := by decide +kernel
theorem dX12_forge_130 : decode cX12_forge 130 = .ok (.getfield 25, 3) := by decide +kernel
theorem dX12_forge_133 : decode cX12_forge 133 = .ok (.iload 4, 2) := by decide +kernel
theorem dX12_forge_135 : decode cX12_forge 135 = .ok (.iaload, 1) := by decide +kernel
theorem dX12_forge_136 : decode cX12_forge 136 = .ok (.iload 6, 2) := by decide +kernel
theorem dX12_forge_138 : decode cX12_forge 138 = .ok (.if_icmp .eq 21, 3) := by decide +kernel
theorem dX12_forge_141 : decode cX12_forge 141 = .ok (.iload 6, 2) := by decide +kernel
theorem dX12_forge_143 : decode cX12_forge 143 = .ok (.iconst 5, 1) := by decide +kernel
theorem dX12_forge_144 : decode cX12_forge 144 = .ok (.if_icmp .ne 19, 3) := by decide +kernel
theorem dX12_forge_147 : decode cX12_forge 147 = .ok (.aload_n 0, 1) := by decide +kernel
theorem dX12_forge_148 : decode cX12_forge 148 = .ok (.getfield 25, 3) := by decide +kernel
theorem dX12_forge_151 : decode cX12_forge 151 = .ok (.iload 4, 2) := by decide +kernel
theorem dX12_forge_153 : decode cX12_forge 153 = .ok (.iaload, 1) := by decide +kernel
theorem dX12_forge_154 : decode cX12_forge 154 = .ok (.bipush 6, 2) := by decide +kernel
theorem dX12_forge_156 : decode cX12_forge 156 = .ok (.if_icmp .ne 7, 3) := by decide +kernel
theorem dX12_forge_159 : decode cX12_forge 159 = .ok (.iconst 1, 1) := by decide +kernel
theorem dX12_forge_160 : decode cX12_forge 160 = .ok (.goto 4, 3) := by decide +kernel
theorem dX12_forge_163 : decode cX12_forge 163 = .ok (.iconst 0, 1) := by decide +kernel
theorem dX12_forge_164 : decode cX12_forge 164 = .ok (.istore 7, 2) := by decide +kernel
theorem dX12_forge_166 : decode cX12_forge 166 = .ok (.iload 7, 2) := by decide +kernel
theorem dX12_forge_168 : decode cX12_forge 168 = .ok (.ifCond .eq 17, 3) := by decide +kernel
theorem dX12_forge_171 : decode cX12_forge 171 = .ok (.aload_n 0, 1) := by decide +kernel
theorem dX12_forge_172 : decode cX12_forge 172 = .ok (.aload_n 0, 1) := by decide +kernel
theorem dX12_forge_173 : decode cX12_forge 173 = .ok (.getfield 25, 3) := by decide +kernel
theorem dX12_forge_176 : decode cX12_forge 176 = .ok (.iload 4, 2) := by decide +kernel
theorem dX12_forge_178 : decode cX12_forge 178 = .ok (.iaload, 1) := by decide +kernel
theorem dX12_forge_179 : decode cX12_forge 179 = .ok (.invokevirtual 157, 3) := by decide +kernel
theorem dX12_forge_182 : decode cX12_forge 182 = .ok (.goto 9, 3) := by decide +kernel
theorem dX12_forge_185 : decode cX12_forge 185 = .ok (.aload_n 0, 1) := by decide +kernel
theorem dX12_forge_186 : decode cX12_forge 186 = .ok (.bipush 11, 2) := by decide +kernel
theorem dX12_forge_188 : decode cX12_forge 188 = .ok (.invokevirtual 149, 3) := by decide +kernel
theorem dX12_forge_191 : decode cX12_forge 191 = .ok (.ireturn, 1) := by decide +kernel
theorem dX12_forge_192 : decode cX12_forge 192 = .ok (.iload_n 2, 1) := by decide +kernel
theorem dX12_forge_193 : decode cX12_forge 193 = .ok (.ifCond .ge 12, 3) := by decide +kernel
theorem dX12_forge_196 : decode cX12_forge 196 = .ok (.aload_n 0, 1) := by decide +kernel
theorem dX12_forge_197 : decode cX12_forge 197 = .ok (.bipush 13, 2) := by decide +kernel
theorem dX12_forge_199 : decode cX12_forge 199 = .ok (.invokevirtual 149, 3) := by decide +kernel
theorem dX12_forge_202 : decode cX12_forge 202 = .ok (.goto 8, 3) := by decide +kernel
theorem dX12_forge_205 : decode cX12_forge 205 = .ok (.aload_n 0, 1) := by decide +kernel
theorem dX12_forge_206 : decode cX12_forge 206 = .ok (.iload_n 2, 1) := by decide +kernel
theorem dX12_forge_207 : decode cX12_forge 207 = .ok (.invokevirtual 157, 3) := by decide +kernel
theorem dX12_forge_210 : decode cX12_forge 210 = .ok (.ireturn, 1) := by decide +kernel
theorem dX12_forge_211 : decode cX12_forge 211 = .ok (.aload_n 0, 1) := by decide +kernel
theorem dX12_forge_212 : decode cX12_forge 212 = .ok (.getfield 120, 3) := by decide +kernel
theorem dX12_forge_215 : decode cX12_forge 215 = .ok (.iload 5, 2) := by decide +kernel
theorem dX12_forge_217 : decode cX12_forge 217 = .ok (.iaload, 1) := by decide +kernel
theorem dX12_forge_218 : decode cX12_forge 218 = .ok (.ifCond .ne 10, 3) := by decide +kernel
theorem dX12_forge_221 : decode cX12_forge 221 = .ok (.aload_n 0, 1) := by decide +kernel
theorem dX12_forge_222 : decode cX12_forge 222 = .ok (.bipush 10, 2) := by decide +kernel
theorem dX12_forge_224 : decode cX12_forge 224 = .ok (.invokevirtual 149, 3) := by decide +kernel
theorem dX12_forge_227 : decode cX12_forge 227 = .ok (.ireturn, 1) := by decide +kernel
theorem dX12_forge_228 : decode cX12_forge 228 = .ok (.aload_n 0, 1) := by decide +kernel
theorem dX12_forge_229 : decode cX12_forge 229 = .ok (.getfield 120, 3) := by decide +kernel
theorem dX12_forge_232 : decode cX12_forge 232 = .ok (.iload 5, 2) := by decide +kernel
theorem dX12_forge_234 : decode cX12_forge 234 = .ok (.iaload, 1) := by decide +kernel
theorem dX12_forge_235 : decode cX12_forge 235 = .ok (.iconst 2, 1) := by decide +kernel
theorem dX12_forge_236 : decode cX12_forge 236 = .ok (.if_icmp .eq 10, 3) := by decide +kernel
theorem dX12_forge_239 : decode cX12_forge 239 = .ok (.aload_n 0, 1) := by decide +kernel
theorem dX12_forge_240 : decode cX12_forge 240 = .ok (.bipush 11, 2) := by decide +kernel
theorem dX12_forge_242 : decode cX12_forge 242 = .ok (.invokevirtual 149, 3) := by decide +kernel
theorem dX12_forge_245 : decode cX12_forge 245 = .ok (.ireturn, 1) := by decide +kernel
theorem dX12_forge_246 : decode cX12_forge 246 = .ok (.iload_n 2, 1) := by decide +kernel
theorem dX12_forge_247 : decode cX12_forge 247 = .ok (.i2l, 1) := by decide +kernel
theorem dX12_forge_248 : decode cX12_forge 248 = .ok (.lconst 0, 1) := by decide +kernel
theorem dX12_forge_249 : decode cX12_forge 249 = .ok (.aload_n 0, 1) := by decide +kernel
theorem dX12_forge_250 : decode cX12_forge 250 = .ok (.getfield 123, 3) := by decide +kernel
theorem dX12_forge_253 : decode cX12_forge 253 = .ok (.iload 5, 2) := by decide +kernel
theorem dX12_forge_255 : decode cX12_forge 255 = .ok (.iaload, 1) := by decide +kernel
theorem dX12_forge_256 : decode cX12_forge 256 = .ok (.iconst 1, 1) := by decide +kernel
theorem dX12_forge_257 : decode cX12_forge 257 = .ok (.isub, 1) := by decide +kernel
theorem dX12_forge_258 : decode cX12_forge 258 = .ok (.i2l, 1) := by decide +kernel
theorem dX12_forge_259 : decode cX12_forge 259 = .ok (.invokestatic 135, 3) := by decide +kernel
theorem dX12_forge_262 : decode cX12_forge 262 = .ok (.ifCond .eq 22, 3) := by decide +kernel
theorem dX12_forge_265 : decode cX12_forge 265 = .ok (.aload_n 0, 1) := by decide +kernel
theorem dX12_forge_266 : decode cX12_forge 266 = .ok (.aload_n 0, 1) := by decide +kernel
theorem dX12_forge_267 : decode cX12_forge 267 = .ok (.getfield 126, 3) := by decide +kernel
theorem dX12_forge_270 : decode cX12_forge 270 = .ok (.bipush 40, 2) := by decide +kernel
theorem dX12_forge_272 : decode cX12_forge 272 = .ok (.iload 5, 2) := by decide +kernel
theorem dX12_forge_274 : decode cX12_forge 274 = .ok (.imul, 1) := by decide +kernel
theorem dX12_forge_275 : decode cX12_forge 275 = .ok (.iload_n 2, 1) := by decide +kernel
theorem dX12_forge_276 : decode cX12_forge 276 = .ok (.iadd, 1) := by decide +kernel
theorem dX12_forge_277 : decode cX12_forge 277 = .ok (.iaload, 1) := by decide +kernel
theorem dX12_forge_278 : decode cX12_forge 278 = .ok (.invokevirtual 157, 3) := by decide +kernel
theorem dX12_forge_281 : decode cX12_forge 281 = .ok (.goto 9, 3) := by decide +kernel
theorem dX12_forge_284 : decode cX12_forge 284 = .ok (.aload_n 0, 1) := by decide +kernel
theorem dX12_forge_285 : decode cX12_forge 285 = .ok (.bipush 12, 2) := by decide +kernel
theorem dX12_forge_287 : decode cX12_forge 287 = .ok (.invokevirtual 149, 3) := by decide +kernel
theorem dX12_forge_290 : decode cX12_forge 290 = .ok (.ireturn, 1) := by decide +kernel
theorem dX12_forge_291 : decode cX12_forge 291 = .ok (.aload_n 0, 1) := by decide +kernel
theorem dX12_forge_292 : decode cX12_forge 292 = .ok (.iload 5, 2) := by decide +kernel
theorem dX12_forge_294 : decode cX12_forge 294 = .ok (.iload_n 2, 1) := by decide +kernel
theorem dX12_forge_295 : decode cX12_forge 295 = .ok (.invokevirtual 352, 3) := by decide +kernel
theorem dX12_forge_298 : decode cX12_forge 298 = .ok (.ireturn, 1) := by decide +kernel
theorem dX12_forge_299 : decode cX12_forge 299 = .ok (.aload_n 0, 1) := by decide +kernel
theorem dX12_forge_300 : decode cX12_forge 300 = .ok (.iload 4, 2) := by decide +kernel
theorem dX12_forge_302 : decode cX12_forge 302 = .ok (.invokevirtual 190, 3) := by decide +kernel
theorem dX12_forge_305 : decode cX12_forge 305 = .ok (.ifCond .ne 9, 3) := by decide +kernel
theorem dX12_forge_308 : decode cX12_forge 308 = .ok (.aload_n 0, 1) := by decide +kernel
theorem dX12_forge_309 : decode cX12_forge 309 = .ok (.iconst 0, 1) := by decide +kernel
theorem dX12_forge_310 : decode cX12_forge 310 = .ok (.invokevirtual 157, 3) := by decide +kernel
theorem dX12_forge_313 : decode cX12_forge 313 = .ok (.ireturn, 1) := by decide +kernel
theorem dX12_forge_314 : decode cX12_forge 314 = .ok (.aload_n 0, 1) := by decide +kernel
theorem dX12_forge_315 : decode cX12_forge 315 = .ok (.getfield 25, 3) := by decide +kernel
theorem dX12_forge_318 : decode cX12_forge 318 = .ok (.iload 4, 2) := by decide +kernel
theorem dX12_forge_320 : decode cX12_forge 320 = .ok (.iaload, 1) := by decide +kernel
theorem dX12_forge_321 : decode cX12_forge 321 = .ok (.iconst 5, 1) := by decide +kernel
theorem dX12_forge_322 : decode cX12_forge 322 = .ok (.if_icmp .lt 17, 3) := by decide +kernel
theorem dX12_forge_325 : decode cX12_forge 325 = .ok (.aload_n 0, 1) := by decide +kernel
theorem dX12_forge_326 : decode cX12_forge 326 = .ok (.aload_n 0, 1) := by decide +kernel
theorem dX12_forge_327 : decode cX12_forge 327 = .ok (.getfield 25, 3) := by decide +kernel
theorem dX12_forge_330 : decode cX12_forge 330 = .ok (.iload 4, 2) := by decide +kernel
theorem dX12_forge_332 : decode cX12_forge 332 = .ok (.iaload, 1) := by decide +kernel
theorem dX12_forge_333 : decode cX12_forge 333 = .ok (.invokevirtual 157, 3) := by decide +kernel
theorem dX12_forge_336 : decode cX12_forge 336 = .ok (.goto 9, 3) := by decide +kernel
theorem dX12_forge_339 : decode cX12_forge 339 = .ok (.aload_n 0, 1) := by decide +kernel
theorem dX12_forge_340 : decode cX12_forge 340 = .ok (.bipush 14, 2) := by decide +kernel
theorem dX12_forge_342 : decode cX12_forge 342 = .ok (.invokevirtual 149, 3) := by decide +kernel
theorem dX12_forge_345 : decode cX12_forge 345 = .ok (.ireturn, 1) := by decide +kernel
theorem dX12_forge_346 : decode cX12_forge 346 = .ok (.iload_n 2, 1) := by decide +kernel
theorem dX12_forge_347 : decode cX12_forge 347 = .ok (.ifCond .ne 12, 3) := by decide +kernel
theorem dX12_forge_350 : decode cX12_forge 350 = .ok (.aload_n 0, 1) := by decide +kernel
theorem dX12_forge_351 : decode cX12_forge 351 = .ok (.bipush 15, 2) := by decide +kernel
theorem dX12_forge_353 : decode cX12_forge 353 = .ok (.invokevirtual 149, 3) := by decide +kernel
theorem dX12_forge_356 : decode cX12_forge 356 = .ok (.goto 12, 3) := by decide +kernel
theorem dX12_forge_359 : decode cX12_forge 359 = .ok (.aload_n 0, 1) := by decide +kernel
theorem dX12_forge_360 : decode cX12_forge 360 = .ok (.sipush 1000, 3) := by decide +kernel
theorem dX12_forge_363 : decode cX12_forge 363 = .ok (.iload_n 2, 1) := by decide +kernel
theorem dX12_forge_364 : decode cX12_forge 364 = .ok (.idiv, 1) := by decide +kernel
theorem dX12_forge_365 : decode cX12_forge 365 = .ok (.invokevirtual 157, 3) := by decide +kernel
theorem dX12_forge_368 : decode cX12_forge 368 = .ok (.ireturn, 1) := by decide +kernel
theorem dX12_forge_369 : decode cX12_forge 369 = .ok (.iload_n 2, 1) := by decide +kernel
theorem dX12_forge_370 : decode cX12_forge 370 = .ok (.iconst 2, 1) := by decide +kernel
theorem dX12_forge_371 : decode cX12_forge 371 = .ok (.invokestatic 349, 3) := by decide +kernel
theorem dX12_forge_374 : decode cX12_forge 374 = .ok (.ifCond .ne 12, 3) := by decide +kernel
theorem dX12_forge_377 : decode cX12_forge 377 = .ok (.aload_n 0, 1) := by decide +kernel
theorem dX12_forge_378 : decode cX12_forge 378 = .ok (.bipush 10, 2) := by decide +kernel
theorem dX12_forge_380 : decode cX12_forge 380 = .ok (.invokevirtual 149, 3) := by decide +kernel
theorem dX12_forge_383 : decode cX12_forge 383 = .ok (.goto 8, 3) := by decide +kernel
theorem dX12_forge_386 : decode cX12_forge 386 = .ok (.aload_n 0, 1) := by decide +kernel
theorem dX12_forge_387 : decode cX12_forge 387 = .ok (.iconst 1, 1) := by decide +kernel
theorem dX12_forge_388 : decode cX12_forge 388 = .ok (.invokevirtual 157, 3) := by decide +kernel
theorem dX12_forge_391 : decode cX12_forge 391 = .ok (.ireturn, 1) := by decide +kernel
theorem dX12_copied_0 : decode cX12_copied 0 = .ok (.aload_n 0, 1) := by decide +kernel
theorem dX12_copied_1 : decode cX12_copied 1 = .ok (.getfield 120, 3) := by decide +kernel
theorem dX12_copied_4 : decode cX12_copied 4 = .ok (.iload_n 1, 1) := by decide +kernel
theorem dX12_copied_5 : decode cX12_copied 5 = .ok (.iaload, 1) := by decide +kernel
theorem dX12_copied_6 : decode cX12_copied 6 = .ok (.ifCond .ne 10, 3) := by decide +kernel
theorem dX12_copied_9 : decode cX12_copied 9 = .ok (.aload_n 0, 1) := by decide +kernel
theorem dX12_copied_10 : decode cX12_copied 10 = .ok (.bipush 10, 2) := by decide +kernel
theorem dX12_copied_12 : decode cX12_copied 12 = .ok (.invokevirtual 149, 3) := by decide +kernel
theorem dX12_copied_15 : decode cX12_copied 15 = .ok (.ireturn, 1) := by decide +kernel
theorem dX12_copied_16 : decode cX12_copied 16 = .ok (.aload_n 0, 1) := by decide +kernel
theorem dX12_copied_17 : decode cX12_copied 17 = .ok (.getfield 120, 3) := by decide +kernel
theorem dX12_copied_20 : decode cX12_copied 20 = .ok (.iload_n 1, 1) := by decide +kernel
theorem dX12_copied_21 : decode cX12_copied 21 = .ok (.iaload, 1) := by decide +kernel
theorem dX12_copied_22 : decode cX12_copied 22 = .ok (.iconst 1, 1) := by decide +kernel
theorem dX12_copied_23 : decode cX12_copied 23 = .ok (.if_icmp .eq 10, 3) := by decide +kernel
theorem dX12_copied_26 : decode cX12_copied 26 = .ok (.aload_n 0, 1) := by decide +kernel
theorem dX12_copied_27 : decode cX12_copied 27 = .ok (.bipush 11, 2) := by decide +kernel
theorem dX12_copied_29 : decode cX12_copied 29 = .ok (.invokevirtual 149, 3) := by decide +kernel
theorem dX12_copied_32 : decode cX12_copied 32 = .ok (.ireturn, 1) := by decide +kernel
theorem dX12_copied_33 : decode cX12_copied 33 = .ok (.iload_n 2, 1) := by decide +kernel
theorem dX12_copied_34 : decode cX12_copied 34 = .ok (.ifCond .lt 23, 3) := by decide +kernel
theorem dX12_copied_37 : decode cX12_copied 37 = .ok (.iload_n 2, 1) := by decide +kernel
theorem dX12_copied_38 : decode cX12_copied 38 = .ok (.iconst 1, 1) := by decide +kernel
theorem dX12_copied_39 : decode cX12_copied 39 = .ok (.iadd, 1) := by decide +kernel
theorem dX12_copied_40 : decode cX12_copied 40 = .ok (.aload_n 0, 1) := by decide +kernel
theorem dX12_copied_41 : decode cX12_copied 41 = .ok (.getfield 123, 3) := by decide +kernel
theorem dX12_copied_44 : decode cX12_copied 44 = .ok (.iload_n 1, 1) := by decide +kernel
theorem dX12_copied_45 : decode cX12_copied 45 = .ok (.iaload, 1) := by decide +kernel
theorem dX12_copied_46 : decode cX12_copied 46 = .ok (.if_icmp .gt 11, 3) := by decide +kernel
theorem dX12_copied_49 : decode cX12_copied 49 = .ok (.iload_n 2, 1) := by decide +kernel
theorem dX12_copied_50 : decode cX12_copied 50 = .ok (.iload_n 2, 1) := by decide +kernel
theorem dX12_copied_51 : decode cX12_copied 51 = .ok (.iadd, 1) := by decide +kernel
theorem dX12_copied_52 : decode cX12_copied 52 = .ok (.bipush 6, 2) := by decide +kernel
theorem dX12_copied_54 : decode cX12_copied 54 = .ok (.if_icmp .le 10, 3) := by decide +kernel
theorem dX12_copied_57 : decode cX12_copied 57 = .ok (.aload_n 0, 1) := by decide +kernel
theorem dX12_copied_58 : decode cX12_copied 58 = .ok (.bipush 12, 2) := by decide +kernel
theorem dX12_copied_60 : decode cX12_copied 60 = .ok (.invokevirtual 149, 3) := by decide +kernel
theorem dX12_copied_63 : decode cX12_copied 63 = .ok (.ireturn, 1) := by decide +kernel
theorem dX12_copied_64 : decode cX12_copied 64 = .ok (.iconst 0, 1) := by decide +kernel
theorem dX12_copied_65 : decode cX12_copied 65 = .ok (.istore_n 3, 1) := by decide +kernel
theorem dX12_copied_66 : decode cX12_copied 66 = .ok (.iconst 1, 1) := by decide +kernel
theorem dX12_copied_67 : decode cX12_copied 67 = .ok (.istore 4, 2) := by decide +kernel
theorem dX12_copied_69 : decode cX12_copied 69 = .ok (.iload 4, 2) := by decide +kernel
theorem dX12_copied_71 : decode cX12_copied 71 = .ok (.iload_n 2, 1) := by decide +kernel
theorem dX12_copied_72 : decode cX12_copied 72 = .ok (.if_icmp .gt 24, 3) := by decide +kernel
theorem dX12_copied_75 : decode cX12_copied 75 = .ok (.iload_n 3, 1) := by decide +kernel
theorem dX12_copied_76 : decode cX12_copied 76 = .ok (.aload_n 0, 1) := by decide +kernel
theorem dX12_copied_77 : decode cX12_copied 77 = .ok (.getfield 126, 3) := by decide +kernel
theorem dX12_copied_80 : decode cX12_copied 80 = .ok (.bipush 40, 2) := by decide +kernel
theorem dX12_copied_82 : decode cX12_copied 82 = .ok (.iload_n 1, 1) := by decide +kernel
theorem dX12_copied_83 : decode cX12_copied 83 = .ok (.imul, 1) := by decide +kernel
theorem dX12_copied_84 : decode cX12_copied 84 = .ok (.iload 4, 2) := by decide +kernel
theorem dX12_copied_86 : decode cX12_copied 86 = .ok (.iadd, 1) := by decide +kernel
theorem dX12_copied_87 : decode cX12_copied 87 = .ok (.iaload, 1) := by decide +kernel
theorem dX12_copied_88 : decode cX12_copied 88 = .ok (.iadd, 1) := by decide +kernel
theorem dX12_copied_89 : decode cX12_copied 89 = .ok (.istore_n 3, 1) := by decide +kernel
theorem dX12_copied_90 : decode cX12_copied 90 = .ok (.iinc 4 1, 3) := by decide +kernel
theorem dX12_copied_93 : decode cX12_copied 93 = .ok (.goto (-24), 3) := by decide +kernel
theorem dX12_copied_96 : decode cX12_copied 96 = .ok (.aload_n 0, 1) := by decide +kernel
theorem dX12_copied_97 : decode cX12_copied 97 = .ok (.iload_n 3, 1) := by decide +kernel
theorem dX12_copied_98 : decode cX12_copied 98 = .ok (.invokevirtual 157, 3) := by decide +kernel
theorem dX12_copied_101 : decode cX12_copied 101 = .ok (.ireturn, 1) := by decide +kernel
theorem dX12_status_0 : decode cX12_status 0 = .ok (.aload_n 0, 1) := by decide +kernel
theorem dX12_status_1 : decode cX12_status 1 = .ok (.getfield 129, 3) := by decide +kernel
theorem dX12_status_4 : decode cX12_status 4 = .ok (.ireturn, 1) := by decide +kernel
theorem dJ6_bitCount_0f7a4_0 : decode cJ6_bitCount_0f7a4 0 = .ok (.iload_n 0, 1) := by decide +kernel
theorem dJ6_bitCount_0f7a4_1 : decode cJ6_bitCount_0f7a4 1 = .ok (.iload_n 0, 1) := by decide +kernel
theorem dJ6_bitCount_0f7a4_2 : decode cJ6_bitCount_0f7a4 2 = .ok (.iconst 1, 1) := by decide +kernel
theorem dJ6_bitCount_0f7a4_3 : decode cJ6_bitCount_0f7a4 3 = .ok (.iushr, 1) := by decide +kernel
theorem dJ6_bitCount_0f7a4_4 : decode cJ6_bitCount_0f7a4 4 = .ok (.ldc_w 265, 3) := by decide +kernel
theorem dJ6_bitCount_0f7a4_7 : decode cJ6_bitCount_0f7a4 7 = .ok (.iand, 1) := by decide +kernel
theorem dJ6_bitCount_0f7a4_8 : decode cJ6_bitCount_0f7a4 8 = .ok (.isub, 1) := by decide +kernel
theorem dJ6_bitCount_0f7a4_9 : decode cJ6_bitCount_0f7a4 9 = .ok (.istore_n 0, 1) := by decide +kernel
theorem dJ6_bitCount_0f7a4_10 : decode cJ6_bitCount_0f7a4 10 = .ok (.iload_n 0, 1) := by decide +kernel
theorem dJ6_bitCount_0f7a4_11 : decode cJ6_bitCount_0f7a4 11 = .ok (.ldc_w 266, 3) := by decide +kernel
theorem dJ6_bitCount_0f7a4_14 : decode cJ6_bitCount_0f7a4 14 = .ok (.iand, 1) := by decide +kernel
theorem dJ6_bitCount_0f7a4_15 : decode cJ6_bitCount_0f7a4 15 = .ok (.iload_n 0, 1) := by decide +kernel
theorem dJ6_bitCount_0f7a4_16 : decode cJ6_bitCount_0f7a4 16 = .ok (.iconst 2, 1) := by decide +kernel
theorem dJ6_bitCount_0f7a4_17 : decode cJ6_bitCount_0f7a4 17 = .ok (.iushr, 1) := by decide +kernel
theorem dJ6_bitCount_0f7a4_18 : decode cJ6_bitCount_0f7a4 18 = .ok (.ldc_w 266, 3) := by decide +kernel
theorem dJ6_bitCount_0f7a4_21 : decode cJ6_bitCount_0f7a4 21 = .ok (.iand, 1) := by decide +kernel
theorem dJ6_bitCount_0f7a4_22 : decode cJ6_bitCount_0f7a4 22 = .ok (.iadd, 1) := by decide +kernel
theorem dJ6_bitCount_0f7a4_23 : decode cJ6_bitCount_0f7a4 23 = .ok (.istore_n 0, 1) := by decide +kernel
theorem dJ6_bitCount_0f7a4_24 : decode cJ6_bitCount_0f7a4 24 = .ok (.iload_n 0, 1) := by decide +kernel
theorem dJ6_bitCount_0f7a4_25 : decode cJ6_bitCount_0f7a4 25 = .ok (.iload_n 0, 1) := by decide +kernel
theorem dJ6_bitCount_0f7a4_26 : decode cJ6_bitCount_0f7a4 26 = .ok (.iconst 4, 1) := by decide +kernel
theorem dJ6_bitCount_0f7a4_27 : decode cJ6_bitCount_0f7a4 27 = .ok (.iushr, 1) := by decide +kernel
theorem dJ6_bitCount_0f7a4_28 : decode cJ6_bitCount_0f7a4 28 = .ok (.iadd, 1) := by decide +kernel
theorem dJ6_bitCount_0f7a4_29 : decode cJ6_bitCount_0f7a4 29 = .ok (.ldc_w 267, 3) := by decide +kernel
theorem dJ6_bitCount_0f7a4_32 : decode cJ6_bitCount_0f7a4 32 = .ok (.iand, 1) := by decide +kernel
theorem dJ6_bitCount_0f7a4_33 : decode cJ6_bitCount_0f7a4 33 = .ok (.istore_n 0, 1) := by decide +kernel
theorem dJ6_bitCount_0f7a4_34 : decode cJ6_bitCount_0f7a4 34 = .ok (.iload_n 0, 1) := by decide +kernel
theorem dJ6_bitCount_0f7a4_35 : decode cJ6_bitCount_0f7a4 35 = .ok (.iload_n 0, 1) := by decide +kernel
theorem dJ6_bitCount_0f7a4_36 : decode cJ6_bitCount_0f7a4 36 = .ok (.bipush 8, 2) := by decide +kernel
theorem dJ6_bitCount_0f7a4_38 : decode cJ6_bitCount_0f7a4 38 = .ok (.iushr, 1) := by decide +kernel
theorem dJ6_bitCount_0f7a4_39 : decode cJ6_bitCount_0f7a4 39 = .ok (.iadd, 1) := by decide +kernel
theorem dJ6_bitCount_0f7a4_40 : decode cJ6_bitCount_0f7a4 40 = .ok (.istore_n 0, 1) := by decide +kernel
theorem dJ6_bitCount_0f7a4_41 : decode cJ6_bitCount_0f7a4 41 = .ok (.iload_n 0, 1) := by decide +kernel
theorem dJ6_bitCount_0f7a4_42 : decode cJ6_bitCount_0f7a4 42 = .ok (.iload_n 0, 1) := by decide +kernel
theorem dJ6_bitCount_0f7a4_43 : decode cJ6_bitCount_0f7a4 43 = .ok (.bipush 16, 2) := by decide +kernel
theorem dJ6_bitCount_0f7a4_45 : decode cJ6_bitCount_0f7a4 45 = .ok (.iushr, 1) := by decide +kernel
theorem dJ6_bitCount_0f7a4_46 : decode cJ6_bitCount_0f7a4 46 = .ok (.iadd, 1) := by decide +kernel
theorem dJ6_bitCount_0f7a4_47 : decode cJ6_bitCount_0f7a4 47 = .ok (.istore_n 0, 1) := by decide +kernel
theorem dJ6_bitCount_0f7a4_48 : decode cJ6_bitCount_0f7a4 48 = .ok (.iload_n 0, 1) := by decide +kernel
theorem dJ6_bitCount_0f7a4_49 : decode cJ6_bitCount_0f7a4 49 = .ok (.bipush 63, 2) := by decide +kernel
theorem dJ6_bitCount_0f7a4_51 : decode cJ6_bitCount_0f7a4 51 = .ok (.iand, 1) := by decide +kernel
theorem dJ6_bitCount_0f7a4_52 : decode cJ6_bitCount_0f7a4 52 = .ok (.ireturn, 1) := by decide +kernel
theorem dJ9_floorMod_7cf53_0 : decode cJ9_floorMod_7cf53 0 = .ok (.iload_n 0, 1) := by decide +kernel
theorem dJ9_floorMod_7cf53_1 : decode cJ9_floorMod_7cf53 1 = .ok (.iload_n 1, 1) := by decide +kernel
theorem dJ9_floorMod_7cf53_2 : decode cJ9_floorMod_7cf53 2 = .ok (.irem, 1) := by decide +kernel
theorem dJ9_floorMod_7cf53_3 : decode cJ9_floorMod_7cf53 3 = .ok (.istore_n 2, 1) := by decide +kernel
theorem dJ9_floorMod_7cf53_4 : decode cJ9_floorMod_7cf53 4 = .ok (.iload_n 0, 1) := by decide +kernel
theorem dJ9_floorMod_7cf53_5 : decode cJ9_floorMod_7cf53 5 = .ok (.iload_n 1, 1) := by decide +kernel
theorem dJ9_floorMod_7cf53_6 : decode cJ9_floorMod_7cf53 6 = .ok (.ixor, 1) := by decide +kernel
theorem dJ9_floorMod_7cf53_7 : decode cJ9_floorMod_7cf53 7 = .ok (.ifCond .ge 11, 3) := by decide +kernel
theorem dJ9_floorMod_7cf53_10 : decode cJ9_floorMod_7cf53 10 = .ok (.iload_n 2, 1) := by decide +kernel
theorem dJ9_floorMod_7cf53_11 : decode cJ9_floorMod_7cf53 11 = .ok (.ifCond .eq 7, 3) := by decide +kernel
theorem dJ9_floorMod_7cf53_14 : decode cJ9_floorMod_7cf53 14 = .ok (.iload_n 2, 1) := by decide +kernel
theorem dJ9_floorMod_7cf53_15 : decode cJ9_floorMod_7cf53 15 = .ok (.iload_n 1, 1) := by decide +kernel
theorem dJ9_floorMod_7cf53_16 : decode cJ9_floorMod_7cf53 16 = .ok (.iadd, 1) := by decide +kernel
theorem dJ9_floorMod_7cf53_17 : decode cJ9_floorMod_7cf53 17 = .ok (.ireturn, 1) := by decide +kernel
theorem dJ9_floorMod_7cf53_18 : decode cJ9_floorMod_7cf53 18 = .ok (.iload_n 2, 1) := by decide +kernel
theorem dJ9_floorMod_7cf53_19 : decode cJ9_floorMod_7cf53 19 = .ok (.ireturn, 1) := by decide +kernel
theorem dJ9_max_f86c9_0 : decode cJ9_max_f86c9 0 = .ok (.lload_n 0, 1) := by decide +kernel
theorem dJ9_max_f86c9_1 : decode cJ9_max_f86c9 1 = .ok (.lload_n 2, 1) := by decide +kernel
theorem dJ9_max_f86c9_2 : decode cJ9_max_f86c9 2 = .ok (.lcmp, 1) := by decide +kernel
theorem dJ9_max_f86c9_3 : decode cJ9_max_f86c9 3 = .ok (.ifCond .lt 7, 3) := by decide +kernel
theorem dJ9_max_f86c9_6 : decode cJ9_max_f86c9 6 = .ok (.lload_n 0, 1) := by decide +kernel
theorem dJ9_max_f86c9_7 : decode cJ9_max_f86c9 7 = .ok (.goto 4, 3) := by decide +kernel
theorem dJ9_max_f86c9_10 : decode cJ9_max_f86c9 10 = .ok (.lload_n 2, 1) := by decide +kernel
theorem dJ9_max_f86c9_11 : decode cJ9_max_f86c9 11 = .ok (.lreturn, 1) := by decide +kernel
theorem dJ9_min_f86c9_0 : decode cJ9_min_f86c9 0 = .ok (.lload_n 0, 1) := by decide +kernel
theorem dJ9_min_f86c9_1 : decode cJ9_min_f86c9 1 = .ok (.lload_n 2, 1) := by decide +kernel
theorem dJ9_min_f86c9_2 : decode cJ9_min_f86c9 2 = .ok (.lcmp, 1) := by decide +kernel
theorem dJ9_min_f86c9_3 : decode cJ9_min_f86c9 3 = .ok (.ifCond .gt 7, 3) := by decide +kernel
theorem dJ9_min_f86c9_6 : decode cJ9_min_f86c9 6 = .ok (.lload_n 0, 1) := by decide +kernel
theorem dJ9_min_f86c9_7 : decode cJ9_min_f86c9 7 = .ok (.goto 4, 3) := by decide +kernel
theorem dJ9_min_f86c9_10 : decode cJ9_min_f86c9 10 = .ok (.lload_n 2, 1) := by decide +kernel
theorem dJ9_min_f86c9_11 : decode cJ9_min_f86c9 11 = .ok (.lreturn, 1) := by decide +kernel
theorem dJ7_fill_d0a16_0 : decode cJ7_fill_d0a16 0 = .ok (.iconst 0, 1) := by decide +kernel
theorem dJ7_fill_d0a16_1 : decode cJ7_fill_d0a16 1 = .ok (.istore_n 3, 1) := by decide +kernel
theorem dJ7_fill_d0a16_2 : decode cJ7_fill_d0a16 2 = .ok (.aload_n 0, 1) := by decide +kernel
theorem dJ7_fill_d0a16_3 : decode cJ7_fill_d0a16 3 = .ok (.arraylength, 1) := by decide +kernel
theorem dJ7_fill_d0a16_4 : decode cJ7_fill_d0a16 4 = .ok (.istore 4, 2) := by decide +kernel
theorem dJ7_fill_d0a16_6 : decode cJ7_fill_d0a16 6 = .ok (.iload_n 3, 1) := by decide +kernel
theorem dJ7_fill_d0a16_7 : decode cJ7_fill_d0a16 7 = .ok (.iload 4, 2) := by decide +kernel
theorem dJ7_fill_d0a16_9 : decode cJ7_fill_d0a16 9 = .ok (.if_icmp .ge 13, 3) := by decide +kernel
theorem dJ7_fill_d0a16_12 : decode cJ7_fill_d0a16 12 = .ok (.aload_n 0, 1) := by decide +kernel
theorem dJ7_fill_d0a16_13 : decode cJ7_fill_d0a16 13 = .ok (.iload_n 3, 1) := by decide +kernel
theorem dJ7_fill_d0a16_14 : decode cJ7_fill_d0a16 14 = .ok (.lload_n 1, 1) := by decide +kernel
theorem dJ7_fill_d0a16_15 : decode cJ7_fill_d0a16 15 = .ok (.lastore, 1) := by decide +kernel
theorem dJ7_fill_d0a16_16 : decode cJ7_fill_d0a16 16 = .ok (.iinc 3 1, 3) := by decide +kernel
theorem dJ7_fill_d0a16_19 : decode cJ7_fill_d0a16 19 = .ok (.goto (-13), 3) := by decide +kernel
theorem dJ7_fill_d0a16_22 : decode cJ7_fill_d0a16 22 = .ok (.return_, 1) := by decide +kernel
theorem dJ7_fill_53178_0 : decode cJ7_fill_53178 0 = .ok (.iconst 0, 1) := by decide +kernel
theorem dJ7_fill_53178_1 : decode cJ7_fill_53178 1 = .ok (.istore_n 2, 1) := by decide +kernel
