theorem dX11_isChoice_1 : decode cX11_isChoice 1 = .ok (.ifCond .lt 13, 3) := by decide +kernel
theorem dX11_isChoice_4 : decode cX11_isChoice 4 = .ok (.iload_n 0, 1) := by decide +kernel
theorem dX11_isChoice_5 : decode cX11_isChoice 5 = .ok (.bipush 8, 2) := by decide +kernel
theorem dX11_isChoice_7 : decode cX11_isChoice 7 = .ok (.if_icmp .ge 7, 3) := by decide +kernel
theorem dX11_isChoice_10 : decode cX11_isChoice 10 = .ok (.iconst 1, 1) := by decide +kernel
theorem dX11_isChoice_11 : decode cX11_isChoice 11 = .ok (.goto 4, 3) := by decide +kernel
theorem dX11_isChoice_14 : decode cX11_isChoice 14 = .ok (.iconst 0, 1) := by decide +kernel
theorem dX11_isChoice_15 : decode cX11_isChoice 15 = .ok (.ireturn, 1) := by decide +kernel
theorem dX11_isSet_0 : decode cX11_isSet 0 = .ok (.iload_n 0, 1) := by decide +kernel
theorem dX11_isSet_1 : decode cX11_isSet 1 = .ok (.ifCond .lt 14, 3) := by decide +kernel
theorem dX11_isSet_4 : decode cX11_isSet 4 = .ok (.iload_n 0, 1) := by decide +kernel
theorem dX11_isSet_5 : decode cX11_isSet 5 = .ok (.sipush 256, 3) := by decide +kernel
theorem dX11_isSet_8 : decode cX11_isSet 8 = .ok (.if_icmp .ge 7, 3) := by decide +kernel
theorem dX11_isSet_11 : decode cX11_isSet 11 = .ok (.iconst 1, 1) := by decide +kernel
theorem dX11_isSet_12 : decode cX11_isSet 12 = .ok (.goto 4, 3) := by decide +kernel
theorem dX11_isSet_15 : decode cX11_isSet 15 = .ok (.iconst 0, 1) := by decide +kernel
theorem dX11_isSet_16 : decode cX11_isSet 16 = .ok (.ireturn, 1) := by decide +kernel
theorem dX11_isSetOrMade_0 : decode cX11_isSetOrMade 0 = .ok (.iload_n 0, 1) := by decide +kernel
theorem dX11_isSetOrMade_1 : decode cX11_isSetOrMade 1 = .ok (.iconst (-1), 1) := by decide +kernel
theorem dX11_isSetOrMade_2 : decode cX11_isSetOrMade 2 = .ok (.if_icmp .eq 10, 3) := by decide +kernel
theorem dX11_isSetOrMade_5 : decode cX11_isSetOrMade 5 = .ok (.iload_n 0, 1) := by decide +kernel
theorem dX11_isSetOrMade_6 : decode cX11_isSetOrMade 6 = .ok (.invokestatic 282, 3) := by decide +kernel
theorem dX11_isSetOrMade_9 : decode cX11_isSetOrMade 9 = .ok (.ifCond .eq 7, 3) := by decide +kernel
theorem dX11_isSetOrMade_12 : decode cX11_isSetOrMade 12 = .ok (.iconst 1, 1) := by decide +kernel
theorem dX11_isSetOrMade_13 : decode cX11_isSetOrMade 13 = .ok (.goto 4, 3) := by decide +kernel
theorem dX11_isSetOrMade_16 : decode cX11_isSetOrMade 16 = .ok (.iconst 0, 1) := by decide +kernel
theorem dX11_isSetOrMade_17 : decode cX11_isSetOrMade 17 = .ok (.ireturn, 1) := by decide +kernel
theorem dX11_madeOr_0 : decode cX11_madeOr 0 = .ok (.iload_n 1, 1) := by decide +kernel
theorem dX11_madeOr_1 : decode cX11_madeOr 1 = .ok (.iconst (-1), 1) := by decide +kernel
theorem dX11_madeOr_2 : decode cX11_madeOr 2 = .ok (.if_icmp .ne 13, 3) := by decide +kernel
theorem dX11_madeOr_5 : decode cX11_madeOr 5 = .ok (.aload_n 0, 1) := by decide +kernel
theorem dX11_madeOr_6 : decode cX11_madeOr 6 = .ok (.getfield 10, 3) := by decide +kernel
theorem dX11_madeOr_9 : decode cX11_madeOr 9 = .ok (.getfield 142, 3) := by decide +kernel
theorem dX11_madeOr_12 : decode cX11_madeOr 12 = .ok (.goto 4, 3) := by decide +kernel
theorem dX11_madeOr_15 : decode cX11_madeOr 15 = .ok (.iload_n 1, 1) := by decide +kernel
theorem dX11_madeOr_16 : decode cX11_madeOr 16 = .ok (.ireturn, 1) := by decide +kernel
theorem dX11_isType_0 : decode cX11_isType 0 = .ok (.iload_n 0, 1) := by decide +kernel
theorem dX11_isType_1 : decode cX11_isType 1 = .ok (.iconst 1, 1) := by decide +kernel
theorem dX11_isType_2 : decode cX11_isType 2 = .ok (.if_icmp .lt 12, 3) := by decide +kernel
theorem dX11_isType_5 : decode cX11_isType 5 = .ok (.iload_n 0, 1) := by decide +kernel
theorem dX11_isType_6 : decode cX11_isType 6 = .ok (.iconst 5, 1) := by decide +kernel
theorem dX11_isType_7 : decode cX11_isType 7 = .ok (.if_icmp .gt 7, 3) := by decide +kernel
theorem dX11_isType_10 : decode cX11_isType 10 = .ok (.iconst 1, 1) := by decide +kernel
theorem dX11_isType_11 : decode cX11_isType 11 = .ok (.goto 4, 3) := by decide +kernel
theorem dX11_isType_14 : decode cX11_isType 14 = .ok (.iconst 0, 1) := by decide +kernel
theorem dX11_isType_15 : decode cX11_isType 15 = .ok (.ireturn, 1) := by decide +kernel
theorem dX11_isRow_0 : decode cX11_isRow 0 = .ok (.iload_n 0, 1) := by decide +kernel
theorem dX11_isRow_1 : decode cX11_isRow 1 = .ok (.ifCond .lt 12, 3) := by decide +kernel
theorem dX11_isRow_4 : decode cX11_isRow 4 = .ok (.iload_n 0, 1) := by decide +kernel
theorem dX11_isRow_5 : decode cX11_isRow 5 = .ok (.iconst 4, 1) := by decide +kernel
theorem dX11_isRow_6 : decode cX11_isRow 6 = .ok (.if_icmp .ge 7, 3) := by decide +kernel
theorem dX11_isRow_9 : decode cX11_isRow 9 = .ok (.iconst 1, 1) := by decide +kernel
theorem dX11_isRow_10 : decode cX11_isRow 10 = .ok (.goto 4, 3) := by decide +kernel
theorem dX11_isRow_13 : decode cX11_isRow 13 = .ok (.iconst 0, 1) := by decide +kernel
theorem dX11_isRow_14 : decode cX11_isRow 14 = .ok (.ireturn, 1) := by decide +kernel
theorem dX11_isSort_0 : decode cX11_isSort 0 = .ok (.iload_n 0, 1) := by decide +kernel
theorem dX11_isSort_1 : decode cX11_isSort 1 = .ok (.ifCond .lt 12, 3) := by decide +kernel
theorem dX11_isSort_4 : decode cX11_isSort 4 = .ok (.iload_n 0, 1) := by decide +kernel
theorem dX11_isSort_5 : decode cX11_isSort 5 = .ok (.iconst 2, 1) := by decide +kernel
theorem dX11_isSort_6 : decode cX11_isSort 6 = .ok (.if_icmp .gt 7, 3) := by decide +kernel
theorem dX11_isSort_9 : decode cX11_isSort 9 = .ok (.iconst 1, 1) := by decide +kernel
theorem dX11_isSort_10 : decode cX11_isSort 10 = .ok (.goto 4, 3) := by decide +kernel
theorem dX11_isSort_13 : decode cX11_isSort 13 = .ok (.iconst 0, 1) := by decide +kernel
theorem dX11_isSort_14 : decode cX11_isSort 14 = .ok (.ireturn, 1) := by decide +kernel
theorem dX11_areDice_0 : decode cX11_areDice 0 = .ok (.iload_n 0, 1) := by decide +kernel
theorem dX11_areDice_1 : decode cX11_areDice 1 = .ok (.bipush 7, 2) := by decide +kernel
theorem dX11_areDice_3 : decode cX11_areDice 3 = .ok (.iand, 1) := by decide +kernel
theorem dX11_areDice_4 : decode cX11_areDice 4 = .ok (.istore_n 1, 1) := by decide +kernel
theorem dX11_areDice_5 : decode cX11_areDice 5 = .ok (.iload_n 0, 1) := by decide +kernel
theorem dX11_areDice_6 : decode cX11_areDice 6 = .ok (.iconst 3, 1) := by decide +kernel
theorem dX11_areDice_7 : decode cX11_areDice 7 = .ok (.ishr, 1) := by decide +kernel
theorem dX11_areDice_8 : decode cX11_areDice 8 = .ok (.istore_n 2, 1) := by decide +kernel
theorem dX11_areDice_9 : decode cX11_areDice 9 = .ok (.iload_n 1, 1) := by decide +kernel
theorem dX11_areDice_10 : decode cX11_areDice 10 = .ok (.iconst 1, 1) := by decide +kernel
theorem dX11_areDice_11 : decode cX11_areDice 11 = .ok (.if_icmp .lt 23, 3) := by decide +kernel
theorem dX11_areDice_14 : decode cX11_areDice 14 = .ok (.iload_n 1, 1) := by decide +kernel
theorem dX11_areDice_15 : decode cX11_areDice 15 = .ok (.iconst 5, 1) := by decide +kernel
theorem dX11_areDice_16 : decode cX11_areDice 16 = .ok (.if_icmp .gt 18, 3) := by decide +kernel
theorem dX11_areDice_19 : decode cX11_areDice 19 = .ok (.iload_n 2, 1) := by decide +kernel
theorem dX11_areDice_20 : decode cX11_areDice 20 = .ok (.iconst 2, 1) := by decide +kernel
theorem dX11_areDice_21 : decode cX11_areDice 21 = .ok (.if_icmp .lt 13, 3) := by decide +kernel
theorem dX11_areDice_24 : decode cX11_areDice 24 = .ok (.iload_n 2, 1) := by decide +kernel
theorem dX11_areDice_25 : decode cX11_areDice 25 = .ok (.bipush 12, 2) := by decide +kernel
theorem dX11_areDice_27 : decode cX11_areDice 27 = .ok (.if_icmp .gt 7, 3) := by decide +kernel
theorem dX11_areDice_30 : decode cX11_areDice 30 = .ok (.iconst 1, 1) := by decide +kernel
theorem dX11_areDice_31 : decode cX11_areDice 31 = .ok (.goto 4, 3) := by decide +kernel
theorem dX11_areDice_34 : decode cX11_areDice 34 = .ok (.iconst 0, 1) := by decide +kernel
theorem dX11_areDice_35 : decode cX11_areDice 35 = .ok (.ireturn, 1) := by decide +kernel
theorem dX11_isValue_0 : decode cX11_isValue 0 = .ok (.iload_n 1, 1) := by decide +kernel
theorem dX11_isValue_1 : decode cX11_isValue 1 = .ok (.ifCond .lt 18, 3) := by decide +kernel
theorem dX11_isValue_4 : decode cX11_isValue 4 = .ok (.iload_n 1, 1) := by decide +kernel
theorem dX11_isValue_5 : decode cX11_isValue 5 = .ok (.aload_n 0, 1) := by decide +kernel
theorem dX11_isValue_6 : decode cX11_isValue 6 = .ok (.getfield 10, 3) := by decide +kernel
theorem dX11_isValue_9 : decode cX11_isValue 9 = .ok (.getfield 91, 3) := by decide +kernel
theorem dX11_isValue_12 : decode cX11_isValue 12 = .ok (.if_icmp .ge 7, 3) := by decide +kernel
theorem dX11_isValue_15 : decode cX11_isValue 15 = .ok (.iconst 1, 1) := by decide +kernel
theorem dX11_isValue_16 : decode cX11_isValue 16 = .ok (.goto 4, 3) := by decide +kernel
theorem dX11_isValue_19 : decode cX11_isValue 19 = .ok (.iconst 0, 1) := by decide +kernel
theorem dX11_isValue_20 : decode cX11_isValue 20 = .ok (.ireturn, 1) := by decide +kernel
theorem dX11_isOfKind_0 : decode cX11_isOfKind 0 = .ok (.aload_n 0, 1) := by decide +kernel
theorem dX11_isOfKind_1 : decode cX11_isOfKind 1 = .ok (.iload_n 1, 1) := by decide +kernel
theorem dX11_isOfKind_2 : decode cX11_isOfKind 2 = .ok (.invokevirtual 113, 3) := by decide +kernel
theorem dX11_isOfKind_5 : decode cX11_isOfKind 5 = .ok (.ifCond .eq 20, 3) := by decide +kernel
theorem dX11_isOfKind_8 : decode cX11_isOfKind 8 = .ok (.aload_n 0, 1) := by decide +kernel
theorem dX11_isOfKind_9 : decode cX11_isOfKind 9 = .ok (.getfield 10, 3) := by decide +kernel
theorem dX11_isOfKind_12 : decode cX11_isOfKind 12 = .ok (.getfield 179, 3) := by decide +kernel
theorem dX11_isOfKind_15 : decode cX11_isOfKind 15 = .ok (.iload_n 1, 1) := by decide +kernel
theorem dX11_isOfKind_16 : decode cX11_isOfKind 16 = .ok (.iaload, 1) := by decide +kernel
theorem dX11_isOfKind_17 : decode cX11_isOfKind 17 = .ok (.iload_n 2, 1) := by decide +kernel
theorem dX11_isOfKind_18 : decode cX11_isOfKind 18 = .ok (.if_icmp .ne 7, 3) := by decide +kernel
theorem dX11_isOfKind_21 : decode cX11_isOfKind 21 = .ok (.iconst 1, 1) := by decide +kernel
theorem dX11_isOfKind_22 : decode cX11_isOfKind 22 = .ok (.goto 4, 3) := by decide +kernel
theorem dX11_isOfKind_25 : decode cX11_isOfKind 25 = .ok (.iconst 0, 1) := by decide +kernel
theorem dX11_isOfKind_26 : decode cX11_isOfKind 26 = .ok (.ireturn, 1) := by decide +kernel
theorem dX11_ruleOrNull_0 : decode cX11_ruleOrNull 0 = .ok (.iload_n 1, 1) := by decide +kernel
theorem dX11_ruleOrNull_1 : decode cX11_ruleOrNull 1 = .ok (.ifCond .lt 26, 3) := by decide +kernel
theorem dX11_ruleOrNull_4 : decode cX11_ruleOrNull 4 = .ok (.iload_n 1, 1) := by decide +kernel
theorem dX11_ruleOrNull_5 : decode cX11_ruleOrNull 5 = .ok (.aload_n 0, 1) := by decide +kernel
theorem dX11_ruleOrNull_6 : decode cX11_ruleOrNull 6 = .ok (.getfield 10, 3) := by decide +kernel
theorem dX11_ruleOrNull_9 : decode cX11_ruleOrNull 9 = .ok (.getfield 133, 3) := by decide +kernel
theorem dX11_ruleOrNull_12 : decode cX11_ruleOrNull 12 = .ok (.if_icmp .ge 15, 3) := by decide +kernel
theorem dX11_ruleOrNull_15 : decode cX11_ruleOrNull 15 = .ok (.aload_n 0, 1) := by decide +kernel
theorem dX11_ruleOrNull_16 : decode cX11_ruleOrNull 16 = .ok (.getfield 10, 3) := by decide +kernel
theorem dX11_ruleOrNull_19 : decode cX11_ruleOrNull 19 = .ok (.getfield 354, 3) := by decide +kernel
theorem dX11_ruleOrNull_22 : decode cX11_ruleOrNull 22 = .ok (.iload_n 1, 1) := by decide +kernel
theorem dX11_ruleOrNull_23 : decode cX11_ruleOrNull 23 = .ok (.aaload, 1) := by decide +kernel
theorem dX11_ruleOrNull_24 : decode cX11_ruleOrNull 24 = .ok (.goto 4, 3) := by decide +kernel
theorem dX11_ruleOrNull_27 : decode cX11_ruleOrNull 27 = .ok (.aconst_null, 1) := by decide +kernel
theorem dX11_ruleOrNull_28 : decode cX11_ruleOrNull 28 = .ok (.areturn, 1) := by decide +kernel
theorem dX11_hasBit_0 : decode cX11_hasBit 0 = .ok (.iload_n 0, 1) := by decide +kernel
theorem dX11_hasBit_1 : decode cX11_hasBit 1 = .ok (.iload_n 1, 1) := by decide +kernel
theorem dX11_hasBit_2 : decode cX11_hasBit 2 = .ok (.ishr, 1) := by decide +kernel
theorem dX11_hasBit_3 : decode cX11_hasBit 3 = .ok (.iconst 1, 1) := by decide +kernel
theorem dX11_hasBit_4 : decode cX11_hasBit 4 = .ok (.iand, 1) := by decide +kernel
theorem dX11_hasBit_5 : decode cX11_hasBit 5 = .ok (.ifCond .eq 7, 3) := by decide +kernel
theorem dX11_hasBit_8 : decode cX11_hasBit 8 = .ok (.iconst 1, 1) := by decide +kernel
theorem dX11_hasBit_9 : decode cX11_hasBit 9 = .ok (.goto 4, 3) := by decide +kernel
theorem dX11_hasBit_12 : decode cX11_hasBit 12 = .ok (.iconst 0, 1) := by decide +kernel
theorem dX11_hasBit_13 : decode cX11_hasBit 13 = .ok (.ireturn, 1) := by decide +kernel
theorem dX11_withBit_0 : decode cX11_withBit 0 = .ok (.iload_n 2, 1) := by decide +kernel
theorem dX11_withBit_1 : decode cX11_withBit 1 = .ok (.ifCond .eq 11, 3) := by decide +kernel
theorem dX11_withBit_4 : decode cX11_withBit 4 = .ok (.iload_n 0, 1) := by decide +kernel
theorem dX11_withBit_5 : decode cX11_withBit 5 = .ok (.iconst 1, 1) := by decide +kernel
theorem dX11_withBit_6 : decode cX11_withBit 6 = .ok (.iload_n 1, 1) := by decide +kernel
theorem dX11_withBit_7 : decode cX11_withBit 7 = .ok (.ishl, 1) := by decide +kernel
theorem dX11_withBit_8 : decode cX11_withBit 8 = .ok (.ior, 1) := by decide +kernel
theorem dX11_withBit_9 : decode cX11_withBit 9 = .ok (.goto 10, 3) := by decide +kernel
theorem dX11_withBit_12 : decode cX11_withBit 12 = .ok (.iload_n 0, 1) := by decide +kernel
theorem dX11_withBit_13 : decode cX11_withBit 13 = .ok (.iconst 1, 1) := by decide +kernel
theorem dX11_withBit_14 : decode cX11_withBit 14 = .ok (.iload_n 1, 1) := by decide +kernel
theorem dX11_withBit_15 : decode cX11_withBit 15 = .ok (.ishl, 1) := by decide +kernel
theorem dX11_withBit_16 : decode cX11_withBit 16 = .ok (.iconst (-1), 1) := by decide +kernel
theorem dX11_withBit_17 : decode cX11_withBit 17 = .ok (.ixor, 1) := by decide +kernel
theorem dX11_withBit_18 : decode cX11_withBit 18 = .ok (.iand, 1) := by decide +kernel
theorem dX11_withBit_19 : decode cX11_withBit 19 = .ok (.ireturn, 1) := by decide +kernel
theorem dX11_bit_0 : decode cX11_bit 0 = .ok (.iload_n 0, 1) := by decide +kernel
theorem dX11_bit_1 : decode cX11_bit 1 = .ok (.ifCond .eq 7, 3) := by decide +kernel
theorem dX11_bit_4 : decode cX11_bit 4 = .ok (.iconst 1, 1) := by decide +kernel
theorem dX11_bit_5 : decode cX11_bit 5 = .ok (.goto 4, 3) := by decide +kernel
theorem dX11_bit_8 : decode cX11_bit 8 = .ok (.iconst 0, 1) := by decide +kernel
theorem dX11_bit_9 : decode cX11_bit 9 = .ok (.ireturn, 1) := by decide +kernel
theorem dX11_canBeRule_0 : decode cX11_canBeRule 0 = .ok (.iload_n 3, 1) := by decide +kernel
theorem dX11_canBeRule_1 : decode cX11_canBeRule 1 = .ok (.ifCond .lt 20, 3) := by decide +kernel
theorem dX11_canBeRule_4 : decode cX11_canBeRule 4 = .ok (.iload_n 3, 1) := by decide +kernel
theorem dX11_canBeRule_5 : decode cX11_canBeRule 5 = .ok (.bipush 15, 2) := by decide +kernel
theorem dX11_canBeRule_7 : decode cX11_canBeRule 7 = .ok (.iand, 1) := by decide +kernel
theorem dX11_canBeRule_8 : decode cX11_canBeRule 8 = .ok (.bipush 9, 2) := by decide +kernel
theorem dX11_canBeRule_10 : decode cX11_canBeRule 10 = .ok (.if_icmp .gt 11, 3) := by decide +kernel
theorem dX11_canBeRule_13 : decode cX11_canBeRule 13 = .ok (.iload_n 3, 1) := by decide +kernel
theorem dX11_canBeRule_14 : decode cX11_canBeRule 14 = .ok (.iconst 4, 1) := by decide +kernel
theorem dX11_canBeRule_15 : decode cX11_canBeRule 15 = .ok (.ishr, 1) := by decide +kernel
theorem dX11_canBeRule_16 : decode cX11_canBeRule 16 = .ok (.bipush 20, 2) := by decide +kernel
theorem dX11_canBeRule_18 : decode cX11_canBeRule 18 = .ok (.if_icmp .le 5, 3) := by decide +kernel
theorem dX11_canBeRule_21 : decode cX11_canBeRule 21 = .ok (.iconst 0, 1) := by decide +kernel
theorem dX11_canBeRule_22 : decode cX11_canBeRule 22 = .ok (.ireturn, 1) := by decide +kernel
theorem dX11_canBeRule_23 : decode cX11_canBeRule 23 = .ok (.iload_n 1, 1) := by decide +kernel
theorem dX11_canBeRule_24 : decode cX11_canBeRule 24 = .ok (.tableswitch 57 4 6 #[28, 52, 52], 28) := by decide +kernel
theorem dX11_canBeRule_52 : decode cX11_canBeRule 52 = .ok (.aload_n 0, 1) := by decide +kernel
theorem dX11_canBeRule_53 : decode cX11_canBeRule 53 = .ok (.iload_n 2, 1) := by decide +kernel
theorem dX11_canBeRule_54 : decode cX11_canBeRule 54 = .ok (.invokevirtual 216, 3) := by decide +kernel
theorem dX11_canBeRule_57 : decode cX11_canBeRule 57 = .ok (.ifnull 17, 3) := by decide +kernel
theorem dX11_canBeRule_60 : decode cX11_canBeRule 60 = .ok (.aload_n 0, 1) := by decide +kernel
theorem dX11_canBeRule_61 : decode cX11_canBeRule 61 = .ok (.getfield 48, 3) := by decide +kernel
theorem dX11_canBeRule_64 : decode cX11_canBeRule 64 = .ok (.invokevirtual 358, 3) := by decide +kernel
theorem dX11_canBeRule_67 : decode cX11_canBeRule 67 = .ok (.ifCond .ne 7, 3) := by decide +kernel
theorem dX11_canBeRule_70 : decode cX11_canBeRule 70 = .ok (.iconst 1, 1) := by decide +kernel
theorem dX11_canBeRule_71 : decode cX11_canBeRule 71 = .ok (.goto 4, 3) := by decide +kernel
theorem dX11_canBeRule_74 : decode cX11_canBeRule 74 = .ok (.iconst 0, 1) := by decide +kernel
theorem dX11_canBeRule_75 : decode cX11_canBeRule 75 = .ok (.ireturn, 1) := by decide +kernel
theorem dX11_canBeRule_76 : decode cX11_canBeRule 76 = .ok (.iload_n 2, 1) := by decide +kernel
theorem dX11_canBeRule_77 : decode cX11_canBeRule 77 = .ok (.invokestatic 103, 3) := by decide +kernel
theorem dX11_canBeRule_80 : decode cX11_canBeRule 80 = .ok (.ireturn, 1) := by decide +kernel
theorem dX11_canBeRule_81 : decode cX11_canBeRule 81 = .ok (.aload_n 0, 1) := by decide +kernel
theorem dX11_canBeRule_82 : decode cX11_canBeRule 82 = .ok (.iload_n 2, 1) := by decide +kernel
theorem dX11_canBeRule_83 : decode cX11_canBeRule 83 = .ok (.invokevirtual 113, 3) := by decide +kernel
theorem dX11_canBeRule_86 : decode cX11_canBeRule 86 = .ok (.ifCond .eq 33, 3) := by decide +kernel
theorem dX11_canBeRule_89 : decode cX11_canBeRule 89 = .ok (.iload 4, 2) := by decide +kernel
theorem dX11_canBeRule_91 : decode cX11_canBeRule 91 = .ok (.sipush 1000, 3) := by decide +kernel
theorem dX11_canBeRule_94 : decode cX11_canBeRule 94 = .ok (.invokestatic 79, 3) := by decide +kernel
theorem dX11_canBeRule_97 : decode cX11_canBeRule 97 = .ok (.ifCond .eq 22, 3) := by decide +kernel
theorem dX11_canBeRule_100 : decode cX11_canBeRule 100 = .ok (.iload 5, 2) := by decide +kernel
theorem dX11_canBeRule_102 : decode cX11_canBeRule 102 = .ok (.iconst (-1), 1) := by decide +kernel
theorem dX11_canBeRule_103 : decode cX11_canBeRule 103 = .ok (.if_icmp .eq 12, 3) := by decide +kernel
theorem dX11_canBeRule_106 : decode cX11_canBeRule 106 = .ok (.aload_n 0, 1) := by decide +kernel
theorem dX11_canBeRule_107 : decode cX11_canBeRule 107 = .ok (.iload 5, 2) := by decide +kernel
theorem dX11_canBeRule_109 : decode cX11_canBeRule 109 = .ok (.invokevirtual 361, 3) := by decide +kernel
theorem dX11_canBeRule_112 : decode cX11_canBeRule 112 = .ok (.ifCond .eq 7, 3) := by decide +kernel
theorem dX11_canBeRule_115 : decode cX11_canBeRule 115 = .ok (.iconst 1, 1) := by decide +kernel
theorem dX11_canBeRule_116 : decode cX11_canBeRule 116 = .ok (.goto 4, 3) := by decide +kernel
theorem dX11_canBeRule_119 : decode cX11_canBeRule 119 = .ok (.iconst 0, 1) := by decide +kernel
theorem dX11_canBeRule_120 : decode cX11_canBeRule 120 = .ok (.ireturn, 1) := by decide +kernel
theorem dX11_isFactorOfValue_0 : decode cX11_isFactorOfValue 0 = .ok (.iload_n 1, 1) := by decide +kernel
theorem dX11_isFactorOfValue_1 : decode cX11_isFactorOfValue 1 = .ok (.iconst 4, 1) := by decide +kernel
theorem dX11_isFactorOfValue_2 : decode cX11_isFactorOfValue 2 = .ok (.ishr, 1) := by decide +kernel
theorem dX11_isFactorOfValue_3 : decode cX11_isFactorOfValue 3 = .ok (.istore_n 2, 1) := by decide +kernel
theorem dX11_isFactorOfValue_4 : decode cX11_isFactorOfValue 4 = .ok (.aload_n 0, 1) := by decide +kernel
theorem dX11_isFactorOfValue_5 : decode cX11_isFactorOfValue 5 = .ok (.iload_n 1, 1) := by decide +kernel
theorem dX11_isFactorOfValue_6 : decode cX11_isFactorOfValue 6 = .ok (.bipush 15, 2) := by decide +kernel
theorem dX11_isFactorOfValue_8 : decode cX11_isFactorOfValue 8 = .ok (.iand, 1) := by decide +kernel
theorem dX11_isFactorOfValue_9 : decode cX11_isFactorOfValue 9 = .ok (.invokevirtual 113, 3) := by decide +kernel
theorem dX11_isFactorOfValue_12 : decode cX11_isFactorOfValue 12 = .ok (.ifCond .eq 18, 3) := by decide +kernel
theorem dX11_isFactorOfValue_15 : decode cX11_isFactorOfValue 15 = .ok (.iload_n 2, 1) := by decide +kernel
theorem dX11_isFactorOfValue_16 : decode cX11_isFactorOfValue 16 = .ok (.iconst 1, 1) := by decide +kernel
theorem dX11_isFactorOfValue_17 : decode cX11_isFactorOfValue 17 = .ok (.if_icmp .lt 13, 3) := by decide +kernel
theorem dX11_isFactorOfValue_20 : decode cX11_isFactorOfValue 20 = .ok (.iload_n 2, 1) := by decide +kernel
theorem dX11_isFactorOfValue_21 : decode cX11_isFactorOfValue 21 = .ok (.bipush 9, 2) := by decide +kernel
theorem dX11_isFactorOfValue_23 : decode cX11_isFactorOfValue 23 = .ok (.if_icmp .gt 7, 3) := by decide +kernel
theorem dX11_isFactorOfValue_26 : decode cX11_isFactorOfValue 26 = .ok (.iconst 1, 1) := by decide +kernel
theorem dX11_isFactorOfValue_27 : decode cX11_isFactorOfValue 27 = .ok (.goto 4, 3) := by decide +kernel
theorem dX11_isFactorOfValue_30 : decode cX11_isFactorOfValue 30 = .ok (.iconst 0, 1) := by decide +kernel
theorem dX11_isFactorOfValue_31 : decode cX11_isFactorOfValue 31 = .ok (.ireturn, 1) := by decide +kernel
theorem dX11_ruleOf_0 : decode cX11_ruleOf 0 = .ok (.aload_n 0, 1) := by decide +kernel
theorem dX11_ruleOf_1 : decode cX11_ruleOf 1 = .ok (.getfield 10, 3) := by decide +kernel
theorem dX11_ruleOf_4 : decode cX11_ruleOf 4 = .ok (.getfield 133, 3) := by decide +kernel
theorem dX11_ruleOf_7 : decode cX11_ruleOf 7 = .ok (.istore 6, 2) := by decide +kernel
theorem dX11_ruleOf_9 : decode cX11_ruleOf 9 = .ok (.iload_n 1, 1) := by decide +kernel
theorem dX11_ruleOf_10 : decode cX11_ruleOf 10 = .ok (.tableswitch 137 2 7 #[38, 58, 88, 104, 121, 58], 38) := by decide +kernel
theorem dX11_ruleOf_48 : decode cX11_ruleOf 48 = .ok (.new 364, 3) := by decide +kernel
theorem dX11_ruleOf_51 : decode cX11_ruleOf 51 = .ok (.dup, 1) := by decide +kernel
theorem dX11_ruleOf_52 : decode cX11_ruleOf 52 = .ok (.iload 6, 2) := by decide +kernel
theorem dX11_ruleOf_54 : decode cX11_ruleOf 54 = .ok (.aload_n 0, 1) := by decide +kernel
theorem dX11_ruleOf_55 : decode cX11_ruleOf 55 = .ok (.getfield 48, 3) := by decide +kernel
theorem dX11_ruleOf_58 : decode cX11_ruleOf 58 = .ok (.iload_n 2, 1) := by decide +kernel
theorem dX11_ruleOf_59 : decode cX11_ruleOf 59 = .ok (.iload_n 3, 1) := by decide +kernel
theorem dX11_ruleOf_60 : decode cX11_ruleOf 60 = .ok (.iload 4, 2) := by decide +kernel
theorem dX11_ruleOf_62 : decode cX11_ruleOf 62 = .ok (.iload 5, 2) := by decide +kernel
theorem dX11_ruleOf_64 : decode cX11_ruleOf 64 = .ok (.invokespecial 366, 3) := by decide +kernel
theorem dX11_ruleOf_67 : decode cX11_ruleOf 67 = .ok (.areturn, 1) := by decide +kernel
theorem dX11_ruleOf_68 : decode cX11_ruleOf 68 = .ok (.new 369, 3) := by decide +kernel
theorem dX11_ruleOf_71 : decode cX11_ruleOf 71 = .ok (.dup, 1) := by decide +kernel
theorem dX11_ruleOf_72 : decode cX11_ruleOf 72 = .ok (.iload 6, 2) := by decide +kernel
theorem dX11_ruleOf_74 : decode cX11_ruleOf 74 = .ok (.aload_n 0, 1) := by decide +kernel
theorem dX11_ruleOf_75 : decode cX11_ruleOf 75 = .ok (.getfield 48, 3) := by decide +kernel
theorem dX11_ruleOf_78 : decode cX11_ruleOf 78 = .ok (.iload_n 1, 1) := by decide +kernel
theorem dX11_ruleOf_79 : decode cX11_ruleOf 79 = .ok (.iconst 3, 1) := by decide +kernel
theorem dX11_ruleOf_80 : decode cX11_ruleOf 80 = .ok (.if_icmp .ne 7, 3) := by decide +kernel
theorem dX11_ruleOf_83 : decode cX11_ruleOf 83 = .ok (.iconst 1, 1) := by decide +kernel
theorem dX11_ruleOf_84 : decode cX11_ruleOf 84 = .ok (.goto 4, 3) := by decide +kernel
theorem dX11_ruleOf_87 : decode cX11_ruleOf 87 = .ok (.iconst 0, 1) := by decide +kernel
theorem dX11_ruleOf_88 : decode cX11_ruleOf 88 = .ok (.iload_n 2, 1) := by decide +kernel
theorem dX11_ruleOf_89 : decode cX11_ruleOf 89 = .ok (.iload_n 3, 1) := by decide +kernel
theorem dX11_ruleOf_90 : decode cX11_ruleOf 90 = .ok (.iload 4, 2) := by decide +kernel
theorem dX11_ruleOf_92 : decode cX11_ruleOf 92 = .ok (.iload 5, 2) := by decide +kernel
theorem dX11_ruleOf_94 : decode cX11_ruleOf 94 = .ok (.invokespecial 371, 3) := by decide +kernel
theorem dX11_ruleOf_97 : decode cX11_ruleOf 97 = .ok (.areturn, 1) := by decide +kernel
theorem dX11_ruleOf_98 : decode cX11_ruleOf 98 = .ok (.new 374, 3) := by decide +kernel
theorem dX11_ruleOf_101 : decode cX11_ruleOf 101 = .ok (.dup, 1) := by decide +kernel
theorem dX11_ruleOf_102 : decode cX11_ruleOf 102 = .ok (.iload 6, 2) := by decide +kernel
theorem dX11_ruleOf_104 : decode cX11_ruleOf 104 = .ok (.aload_n 0, 1) := by decide +kernel
theorem dX11_ruleOf_105 : decode cX11_ruleOf 105 = .ok (.getfield 48, 3) := by decide +kernel
theorem dX11_ruleOf_108 : decode cX11_ruleOf 108 = .ok (.iload_n 2, 1) := by decide +kernel
theorem dX11_ruleOf_109 : decode cX11_ruleOf 109 = .ok (.iload_n 3, 1) := by decide +kernel
theorem dX11_ruleOf_110 : decode cX11_ruleOf 110 = .ok (.invokespecial 376, 3) := by decide +kernel
theorem dX11_ruleOf_113 : decode cX11_ruleOf 113 = .ok (.areturn, 1) := by decide +kernel
theorem dX11_ruleOf_114 : decode cX11_ruleOf 114 = .ok (.new 379, 3) := by decide +kernel
theorem dX11_ruleOf_117 : decode cX11_ruleOf 117 = .ok (.dup, 1) := by decide +kernel
theorem dX11_ruleOf_118 : decode cX11_ruleOf 118 = .ok (.iconst 5, 1) := by decide +kernel
theorem dX11_ruleOf_119 : decode cX11_ruleOf 119 = .ok (.iload 6, 2) := by decide +kernel
theorem dX11_ruleOf_121 : decode cX11_ruleOf 121 = .ok (.aload_n 0, 1) := by decide +kernel
theorem dX11_ruleOf_122 : decode cX11_ruleOf 122 = .ok (.getfield 48, 3) := by decide +kernel
theorem dX11_ruleOf_125 : decode cX11_ruleOf 125 = .ok (.iload_n 2, 1) := by decide +kernel
theorem dX11_ruleOf_126 : decode cX11_ruleOf 126 = .ok (.iload_n 3, 1) := by decide +kernel
theorem dX11_ruleOf_127 : decode cX11_ruleOf 127 = .ok (.invokespecial 381, 3) := by decide +kernel
theorem dX11_ruleOf_130 : decode cX11_ruleOf 130 = .ok (.areturn, 1) := by decide +kernel
theorem dX11_ruleOf_131 : decode cX11_ruleOf 131 = .ok (.new 384, 3) := by decide +kernel
theorem dX11_ruleOf_134 : decode cX11_ruleOf 134 = .ok (.dup, 1) := by decide +kernel
theorem dX11_ruleOf_135 : decode cX11_ruleOf 135 = .ok (.iload 6, 2) := by decide +kernel
theorem dX11_ruleOf_137 : decode cX11_ruleOf 137 = .ok (.aload_n 0, 1) := by decide +kernel
theorem dX11_ruleOf_138 : decode cX11_ruleOf 138 = .ok (.getfield 48, 3) := by decide +kernel
theorem dX11_ruleOf_141 : decode cX11_ruleOf 141 = .ok (.iload_n 2, 1) := by decide +kernel
theorem dX11_ruleOf_142 : decode cX11_ruleOf 142 = .ok (.iload_n 3, 1) := by decide +kernel
theorem dX11_ruleOf_143 : decode cX11_ruleOf 143 = .ok (.invokespecial 386, 3) := by decide +kernel
theorem dX11_ruleOf_146 : decode cX11_ruleOf 146 = .ok (.areturn, 1) := by decide +kernel
theorem dX11_ruleOf_147 : decode cX11_ruleOf 147 = .ok (.new 221, 3) := by decide +kernel
theorem dX11_ruleOf_150 : decode cX11_ruleOf 150 = .ok (.dup, 1) := by decide +kernel
theorem dX11_ruleOf_151 : decode cX11_ruleOf 151 = .ok (.iconst 0, 1) := by decide +kernel
theorem dX11_ruleOf_152 : decode cX11_ruleOf 152 = .ok (.iload 6, 2) := by decide +kernel
theorem dX11_ruleOf_154 : decode cX11_ruleOf 154 = .ok (.aload_n 0, 1) := by decide +kernel
theorem dX11_ruleOf_155 : decode cX11_ruleOf 155 = .ok (.getfield 48, 3) := by decide +kernel
theorem dX11_ruleOf_158 : decode cX11_ruleOf 158 = .ok (.iload_n 2, 1) := by decide +kernel
theorem dX11_ruleOf_159 : decode cX11_ruleOf 159 = .ok (.iload_n 3, 1) := by decide +kernel
theorem dX11_ruleOf_160 : decode cX11_ruleOf 160 = .ok (.iload 4, 2) := by decide +kernel
theorem dX11_ruleOf_162 : decode cX11_ruleOf 162 = .ok (.iload 5, 2) := by decide +kernel
theorem dX11_ruleOf_164 : decode cX11_ruleOf 164 = .ok (.invokespecial 333, 3) := by decide +kernel
theorem dX11_ruleOf_167 : decode cX11_ruleOf 167 = .ok (.areturn, 1) := by decide +kernel
theorem dX11_entered_0 : decode cX11_entered 0 = .ok (.aload_n 0, 1) := by decide +kernel
theorem dX11_entered_1 : decode cX11_entered 1 = .ok (.getfield 10, 3) := by decide +kernel
theorem dX11_entered_4 : decode cX11_entered 4 = .ok (.getfield 133, 3) := by decide +kernel
theorem dX11_entered_7 : decode cX11_entered 7 = .ok (.bipush 30, 2) := by decide +kernel
theorem dX11_entered_9 : decode cX11_entered 9 = .ok (.if_icmp .lt 9, 3) := by decide +kernel
theorem dX11_entered_12 : decode cX11_entered 12 = .ok (.aload_n 0, 1) := by decide +kernel
theorem dX11_entered_13 : decode cX11_entered 13 = .ok (.iconst 2, 1) := by decide +kernel
theorem dX11_entered_14 : decode cX11_entered 14 = .ok (.invokevirtual 87, 3) := by decide +kernel
theorem dX11_entered_17 : decode cX11_entered 17 = .ok (.ireturn, 1) := by decide +kernel
theorem dX11_entered_18 : decode cX11_entered 18 = .ok (.aload_n 1, 1) := by decide +kernel
theorem dX11_entered_19 : decode cX11_entered 19 = .ok (.getfield 250, 3) := by decide +kernel
theorem dX11_entered_22 : decode cX11_entered 22 = .ok (.iconst (-1), 1) := by decide +kernel
theorem dX11_entered_23 : decode cX11_entered 23 = .ok (.if_icmp .eq 24, 3) := by decide +kernel
theorem dX11_entered_26 : decode cX11_entered 26 = .ok (.aload_n 0, 1) := by decide +kernel
theorem dX11_entered_27 : decode cX11_entered 27 = .ok (.aload_n 1, 1) := by decide +kernel
theorem dX11_entered_28 : decode cX11_entered 28 = .ok (.getfield 250, 3) := by decide +kernel
theorem dX11_entered_31 : decode cX11_entered 31 = .ok (.aload_n 1, 1) := by decide +kernel
theorem dX11_entered_32 : decode cX11_entered 32 = .ok (.invokevirtual 387, 3) := by decide +kernel
theorem dX11_entered_35 : decode cX11_entered 35 = .ok (.invokevirtual 388, 3) := by decide +kernel
theorem dX11_entered_38 : decode cX11_entered 38 = .ok (.ifCond .eq 9, 3) := by decide +kernel
theorem dX11_entered_41 : decode cX11_entered 41 = .ok (.aload_n 0, 1) := by decide +kernel
theorem dX11_entered_42 : decode cX11_entered 42 = .ok (.iconst 4, 1) := by decide +kernel
theorem dX11_entered_43 : decode cX11_entered 43 = .ok (.invokevirtual 87, 3) := by decide +kernel
theorem dX11_entered_46 : decode cX11_entered 46 = .ok (.ireturn, 1) := by decide +kernel
theorem dX11_entered_47 : decode cX11_entered 47 = .ok (.aload_n 0, 1) := by decide +kernel
theorem dX11_entered_48 : decode cX11_entered 48 = .ok (.getfield 10, 3) := by decide +kernel
theorem dX11_entered_51 : decode cX11_entered 51 = .ok (.aload_n 1, 1) := by decide +kernel
theorem dX11_entered_52 : decode cX11_entered 52 = .ok (.invokevirtual 391, 3) := by decide +kernel
theorem dX11_entered_55 : decode cX11_entered 55 = .ok (.aload_n 0, 1) := by decide +kernel
theorem dX11_entered_56 : decode cX11_entered 56 = .ok (.getfield 24, 3) := by decide +kernel
theorem dX11_entered_59 : decode cX11_entered 59 = .ok (.invokevirtual 97, 3) := by decide +kernel
theorem dX11_entered_62 : decode cX11_entered 62 = .ok (.aload_n 0, 1) := by decide +kernel
theorem dX11_entered_63 : decode cX11_entered 63 = .ok (.aload_n 1, 1) := by decide +kernel
theorem dX11_entered_64 : decode cX11_entered 64 = .ok (.getfield 395, 3) := by decide +kernel
theorem dX11_entered_67 : decode cX11_entered 67 = .ok (.invokevirtual 100, 3) := by decide +kernel
theorem dX11_entered_70 : decode cX11_entered 70 = .ok (.ireturn, 1) := by decide +kernel
theorem dX11_closesRing_0 : decode cX11_closesRing 0 = .ok (.iconst 1, 1) := by decide +kernel
theorem dX11_closesRing_1 : decode cX11_closesRing 1 = .ok (.iload_n 1, 1) := by decide +kernel
theorem dX11_closesRing_2 : decode cX11_closesRing 2 = .ok (.ishl, 1) := by decide +kernel
theorem dX11_closesRing_3 : decode cX11_closesRing 3 = .ok (.istore_n 3, 1) := by decide +kernel
theorem dX11_closesRing_4 : decode cX11_closesRing 4 = .ok (.iconst 0, 1) := by decide +kernel
theorem dX11_closesRing_5 : decode cX11_closesRing 5 = .ok (.istore 4, 2) := by decide +kernel
theorem dX11_closesRing_7 : decode cX11_closesRing 7 = .ok (.iconst 0, 1) := by decide +kernel
theorem dX11_closesRing_8 : decode cX11_closesRing 8 = .ok (.istore 5, 2) := by decide +kernel
theorem dX11_closesRing_10 : decode cX11_closesRing 10 = .ok (.iload 5, 2) := by decide +kernel
theorem dX11_closesRing_12 : decode cX11_closesRing 12 = .ok (.bipush 10, 2) := by decide +kernel
theorem dX11_closesRing_14 : decode cX11_closesRing 14 = .ok (.if_icmp .ge 53, 3) := by decide +kernel
theorem dX11_closesRing_17 : decode cX11_closesRing 17 = .ok (.aload_n 0, 1) := by decide +kernel
theorem dX11_closesRing_18 : decode cX11_closesRing 18 = .ok (.getfield 55, 3) := by decide +kernel
theorem dX11_closesRing_21 : decode cX11_closesRing 21 = .ok (.iload 5, 2) := by decide +kernel
theorem dX11_closesRing_23 : decode cX11_closesRing 23 = .ok (.iload_n 3, 1) := by decide +kernel
theorem dX11_closesRing_24 : decode cX11_closesRing 24 = .ok (.iastore, 1) := by decide +kernel
theorem dX11_closesRing_25 : decode cX11_closesRing 25 = .ok (.iload_n 2, 1) := by decide +kernel
theorem dX11_closesRing_26 : decode cX11_closesRing 26 = .ok (.iload_n 3, 1) := by decide +kernel
theorem dX11_closesRing_27 : decode cX11_closesRing 27 = .ok (.iand, 1) := by decide +kernel
theorem dX11_closesRing_28 : decode cX11_closesRing 28 = .ok (.ifCond .eq 13, 3) := by decide +kernel
theorem dX11_closesRing_31 : decode cX11_closesRing 31 = .ok (.aload_n 0, 1) := by decide +kernel
theorem dX11_closesRing_32 : decode cX11_closesRing 32 = .ok (.iload_n 1, 1) := by decide +kernel
theorem dX11_closesRing_33 : decode cX11_closesRing 33 = .ok (.iload_n 2, 1) := by decide +kernel
theorem dX11_closesRing_34 : decode cX11_closesRing 34 = .ok (.iload 5, 2) := by decide +kernel
theorem dX11_closesRing_36 : decode cX11_closesRing 36 = .ok (.invokevirtual 398, 3) := by decide +kernel
theorem dX11_closesRing_39 : decode cX11_closesRing 39 = .ok (.iconst 1, 1) := by decide +kernel
theorem dX11_closesRing_40 : decode cX11_closesRing 40 = .ok (.ireturn, 1) := by decide +kernel
theorem dX11_closesRing_41 : decode cX11_closesRing 41 = .ok (.iload 4, 2) := by decide +kernel
theorem dX11_closesRing_43 : decode cX11_closesRing 43 = .ok (.iload_n 3, 1) := by decide +kernel
theorem dX11_closesRing_44 : decode cX11_closesRing 44 = .ok (.ior, 1) := by decide +kernel
theorem dX11_closesRing_45 : decode cX11_closesRing 45 = .ok (.istore 4, 2) := by decide +kernel
theorem dX11_closesRing_47 : decode cX11_closesRing 47 = .ok (.aload_n 0, 1) := by decide +kernel
theorem dX11_closesRing_48 : decode cX11_closesRing 48 = .ok (.getfield 10, 3) := by decide +kernel
theorem dX11_closesRing_51 : decode cX11_closesRing 51 = .ok (.iload_n 3, 1) := by decide +kernel
theorem dX11_closesRing_52 : decode cX11_closesRing 52 = .ok (.invokevirtual 401, 3) := by decide +kernel
theorem dX11_closesRing_55 : decode cX11_closesRing 55 = .ok (.iload 4, 2) := by decide +kernel
theorem dX11_closesRing_57 : decode cX11_closesRing 57 = .ok (.iconst (-1), 1) := by decide +kernel
theorem dX11_closesRing_58 : decode cX11_closesRing 58 = .ok (.ixor, 1) := by decide +kernel
theorem dX11_closesRing_59 : decode cX11_closesRing 59 = .ok (.iand, 1) := by decide +kernel
theorem dX11_closesRing_60 : decode cX11_closesRing 60 = .ok (.istore_n 3, 1) := by decide +kernel
theorem dX11_closesRing_61 : decode cX11_closesRing 61 = .ok (.iinc 5 1, 3) := by decide +kernel
theorem dX11_closesRing_64 : decode cX11_closesRing 64 = .ok (.goto (-54), 3) := by decide +kernel
theorem dX11_closesRing_67 : decode cX11_closesRing 67 = .ok (.iconst 0, 1) := by decide +kernel
theorem dX11_closesRing_68 : decode cX11_closesRing 68 = .ok (.ireturn, 1) := by decide +kernel
theorem dX11_keepRing_0 : decode cX11_keepRing 0 = .ok (.aload_n 0, 1) := by decide +kernel
theorem dX11_keepRing_1 : decode cX11_keepRing 1 = .ok (.getfield 51, 3) := by decide +kernel
theorem dX11_keepRing_4 : decode cX11_keepRing 4 = .ok (.iconst 0, 1) := by decide +kernel
theorem dX11_keepRing_5 : decode cX11_keepRing 5 = .ok (.iload_n 1, 1) := by decide +kernel
theorem dX11_keepRing_6 : decode cX11_keepRing 6 = .ok (.iastore, 1) := by decide +kernel
theorem dX11_keepRing_7 : decode cX11_keepRing 7 = .ok (.iload_n 2, 1) := by decide +kernel
theorem dX11_keepRing_8 : decode cX11_keepRing 8 = .ok (.istore 4, 2) := by decide +kernel
theorem dX11_keepRing_10 : decode cX11_keepRing 10 = .ok (.iconst 1, 1) := by decide +kernel
theorem dX11_keepRing_11 : decode cX11_keepRing 11 = .ok (.istore 5, 2) := by decide +kernel
theorem dX11_keepRing_13 : decode cX11_keepRing 13 = .ok (.iload 5, 2) := by decide +kernel
theorem dX11_keepRing_15 : decode cX11_keepRing 15 = .ok (.iload_n 3, 1) := by decide +kernel
theorem dX11_keepRing_16 : decode cX11_keepRing 16 = .ok (.if_icmp .gt 49, 3) := by decide +kernel
theorem dX11_keepRing_19 : decode cX11_keepRing 19 = .ok (.iload 4, 2) := by decide +kernel
theorem dX11_keepRing_21 : decode cX11_keepRing 21 = .ok (.aload_n 0, 1) := by decide +kernel
theorem dX11_keepRing_22 : decode cX11_keepRing 22 = .ok (.getfield 55, 3) := by decide +kernel
theorem dX11_keepRing_25 : decode cX11_keepRing 25 = .ok (.iload_n 3, 1) := by decide +kernel
theorem dX11_keepRing_26 : decode cX11_keepRing 26 = .ok (.iload 5, 2) := by decide +kernel
theorem dX11_keepRing_28 : decode cX11_keepRing 28 = .ok (.isub, 1) := by decide +kernel
theorem dX11_keepRing_29 : decode cX11_keepRing 29 = .ok (.iconst 1, 1) := by decide +kernel
theorem dX11_keepRing_30 : decode cX11_keepRing 30 = .ok (.iadd, 1) := by decide +kernel
theorem dX11_keepRing_31 : decode cX11_keepRing 31 = .ok (.iaload, 1) := by decide +kernel
theorem dX11_keepRing_32 : decode cX11_keepRing 32 = .ok (.iand, 1) := by decide +kernel
theorem dX11_keepRing_33 : decode cX11_keepRing 33 = .ok (.invokestatic 404, 3) := by decide +kernel
theorem dX11_keepRing_36 : decode cX11_keepRing 36 = .ok (.istore 6, 2) := by decide +kernel
theorem dX11_keepRing_38 : decode cX11_keepRing 38 = .ok (.aload_n 0, 1) := by decide +kernel
theorem dX11_keepRing_39 : decode cX11_keepRing 39 = .ok (.getfield 51, 3) := by decide +kernel
theorem dX11_keepRing_42 : decode cX11_keepRing 42 = .ok (.iload 5, 2) := by decide +kernel
theorem dX11_keepRing_44 : decode cX11_keepRing 44 = .ok (.iload 6, 2) := by decide +kernel
theorem dX11_keepRing_46 : decode cX11_keepRing 46 = .ok (.iastore, 1) := by decide +kernel
theorem dX11_keepRing_47 : decode cX11_keepRing 47 = .ok (.aload_n 0, 1) := by decide +kernel
theorem dX11_keepRing_48 : decode cX11_keepRing 48 = .ok (.getfield 10, 3) := by decide +kernel
theorem dX11_keepRing_51 : decode cX11_keepRing 51 = .ok (.getfield 407, 3) := by decide +kernel
theorem dX11_keepRing_54 : decode cX11_keepRing 54 = .ok (.iload 6, 2) := by decide +kernel
theorem dX11_keepRing_56 : decode cX11_keepRing 56 = .ok (.iaload, 1) := by decide +kernel
theorem dX11_keepRing_57 : decode cX11_keepRing 57 = .ok (.istore 4, 2) := by decide +kernel
theorem dX11_keepRing_59 : decode cX11_keepRing 59 = .ok (.iinc 5 1, 3) := by decide +kernel
theorem dX11_keepRing_62 : decode cX11_keepRing 62 = .ok (.goto (-49), 3) := by decide +kernel
theorem dX11_keepRing_65 : decode cX11_keepRing 65 = .ok (.aload_n 0, 1) := by decide +kernel
theorem dX11_keepRing_66 : decode cX11_keepRing 66 = .ok (.iload_n 3, 1) := by decide +kernel
theorem dX11_keepRing_67 : decode cX11_keepRing 67 = .ok (.iconst 1, 1) := by decide +kernel
theorem dX11_keepRing_68 : decode cX11_keepRing 68 = .ok (.iadd, 1) := by decide +kernel
theorem dX11_keepRing_69 : decode cX11_keepRing 69 = .ok (.putfield 58, 3) := by decide +kernel
theorem dX11_keepRing_72 : decode cX11_keepRing 72 = .ok (.return_, 1) := by decide +kernel
theorem dX11_leastOf_0 : decode cX11_leastOf 0 = .ok (.iconst 0, 1) := by decide +kernel
theorem dX11_leastOf_1 : decode cX11_leastOf 1 = .ok (.istore_n 1, 1) := by decide +kernel
theorem dX11_leastOf_2 : decode cX11_leastOf 2 = .ok (.iload_n 1, 1) := by decide +kernel
theorem dX11_leastOf_3 : decode cX11_leastOf 3 = .ok (.bipush 9, 2) := by decide +kernel
theorem dX11_leastOf_5 : decode cX11_leastOf 5 = .ok (.if_icmp .ge 19, 3) := by decide +kernel
theorem dX11_leastOf_8 : decode cX11_leastOf 8 = .ok (.iload_n 0, 1) := by decide +kernel
theorem dX11_leastOf_9 : decode cX11_leastOf 9 = .ok (.iload_n 1, 1) := by decide +kernel
theorem dX11_leastOf_10 : decode cX11_leastOf 10 = .ok (.invokestatic 145, 3) := by decide +kernel
theorem dX11_leastOf_13 : decode cX11_leastOf 13 = .ok (.ifCond .eq 5, 3) := by decide +kernel
theorem dX11_leastOf_16 : decode cX11_leastOf 16 = .ok (.iload_n 1, 1) := by decide +kernel
theorem dX11_leastOf_17 : decode cX11_leastOf 17 = .ok (.ireturn, 1) := by decide +kernel
theorem dX11_leastOf_18 : decode cX11_leastOf 18 = .ok (.iinc 1 1, 3) := by decide +kernel
theorem dX11_leastOf_21 : decode cX11_leastOf 21 = .ok (.goto (-19), 3) := by decide +kernel
theorem dX11_leastOf_24 : decode cX11_leastOf 24 = .ok (.bipush 9, 2) := by decide +kernel
theorem dX11_leastOf_26 : decode cX11_leastOf 26 = .ok (.ireturn, 1) := by decide +kernel
theorem dX11_reckonedNow_0 : decode cX11_reckonedNow 0 = .ok (.aload_n 0, 1) := by decide +kernel
theorem dX11_reckonedNow_1 : decode cX11_reckonedNow 1 = .ok (.getfield 24, 3) := by decide +kernel
theorem dX11_reckonedNow_4 : decode cX11_reckonedNow 4 = .ok (.getfield 410, 3) := by decide +kernel
theorem dX11_reckonedNow_7 : decode cX11_reckonedNow 7 = .ok (.aload_n 0, 1) := by decide +kernel
theorem dX11_reckonedNow_8 : decode cX11_reckonedNow 8 = .ok (.getfield 10, 3) := by decide +kernel
theorem dX11_reckonedNow_11 : decode cX11_reckonedNow 11 = .ok (.aload_n 0, 1) := by decide +kernel
theorem dX11_reckonedNow_12 : decode cX11_reckonedNow 12 = .ok (.getfield 10, 3) := by decide +kernel
theorem dX11_reckonedNow_15 : decode cX11_reckonedNow 15 = .ok (.getfield 142, 3) := by decide +kernel
theorem dX11_reckonedNow_18 : decode cX11_reckonedNow 18 = .ok (.invokevirtual 414, 3) := by decide +kernel
theorem dX11_reckonedNow_21 : decode cX11_reckonedNow 21 = .ok (.aload_n 0, 1) := by decide +kernel
theorem dX11_reckonedNow_22 : decode cX11_reckonedNow 22 = .ok (.getfield 24, 3) := by decide +kernel
theorem dX11_reckonedNow_25 : decode cX11_reckonedNow 25 = .ok (.getfield 410, 3) := by decide +kernel
theorem dX11_reckonedNow_28 : decode cX11_reckonedNow 28 = .ok (.areturn, 1) := by decide +kernel
theorem dX11_numberNow_0 : decode cX11_numberNow 0 = .ok (.aload_n 0, 1) := by decide +kernel
theorem dX11_numberNow_1 : decode cX11_numberNow 1 = .ok (.getfield 24, 3) := by decide +kernel
theorem dX11_numberNow_4 : decode cX11_numberNow 4 = .ok (.iload_n 1, 1) := by decide +kernel
theorem dX11_numberNow_5 : decode cX11_numberNow 5 = .ok (.aload_n 0, 1) := by decide +kernel
theorem dX11_numberNow_6 : decode cX11_numberNow 6 = .ok (.getfield 10, 3) := by decide +kernel
theorem dX11_numberNow_9 : decode cX11_numberNow 9 = .ok (.getfield 142, 3) := by decide +kernel
theorem dX11_numberNow_12 : decode cX11_numberNow 12 = .ok (.invokevirtual 212, 3) := by decide +kernel
theorem dX11_numberNow_15 : decode cX11_numberNow 15 = .ok (.lreturn, 1) := by decide +kernel
theorem dX11_countWays_0 : decode cX11_countWays 0 = .ok (.aload_n 0, 1) := by decide +kernel
theorem dX11_countWays_1 : decode cX11_countWays 1 = .ok (.getfield 75, 3) := by decide +kernel
theorem dX11_countWays_4 : decode cX11_countWays 4 = .ok (.lconst 0, 1) := by decide +kernel
theorem dX11_countWays_5 : decode cX11_countWays 5 = .ok (.invokestatic 418, 3) := by decide +kernel
theorem dX11_countWays_8 : decode cX11_countWays 8 = .ok (.aload_n 0, 1) := by decide +kernel
theorem dX11_countWays_9 : decode cX11_countWays 9 = .ok (.getfield 75, 3) := by decide +kernel
theorem dX11_countWays_12 : decode cX11_countWays 12 = .ok (.iconst 0, 1) := by decide +kernel
theorem dX11_countWays_13 : decode cX11_countWays 13 = .ok (.lconst 1, 1) := by decide +kernel
theorem dX11_countWays_14 : decode cX11_countWays 14 = .ok (.lastore, 1) := by decide +kernel
theorem dX11_countWays_15 : decode cX11_countWays 15 = .ok (.lconst 1, 1) := by decide +kernel
theorem dX11_countWays_16 : decode cX11_countWays 16 = .ok (.lstore_n 3, 1) := by decide +kernel
theorem dX11_countWays_17 : decode cX11_countWays 17 = .ok (.iconst 1, 1) := by decide +kernel
theorem dX11_countWays_18 : decode cX11_countWays 18 = .ok (.istore 5, 2) := by decide +kernel
theorem dX11_countWays_20 : decode cX11_countWays 20 = .ok (.iload 5, 2) := by decide +kernel
theorem dX11_countWays_22 : decode cX11_countWays 22 = .ok (.iload_n 1, 1) := by decide +kernel
theorem dX11_countWays_23 : decode cX11_countWays 23 = .ok (.if_icmp .gt 48, 3) := by decide +kernel
theorem dX11_countWays_26 : decode cX11_countWays 26 = .ok (.lload_n 3, 1) := by decide +kernel
theorem dX11_countWays_27 : decode cX11_countWays 27 = .ok (.iload_n 2, 1) := by decide +kernel
theorem dX11_countWays_28 : decode cX11_countWays 28 = .ok (.i2l, 1) := by decide +kernel
theorem dX11_countWays_29 : decode cX11_countWays 29 = .ok (.lmul, 1) := by decide +kernel
theorem dX11_countWays_30 : decode cX11_countWays 30 = .ok (.lstore_n 3, 1) := by decide +kernel
theorem dX11_countWays_31 : decode cX11_countWays 31 = .ok (.aload_n 0, 1) := by decide +kernel
theorem dX11_countWays_32 : decode cX11_countWays 32 = .ok (.getfield 75, 3) := by decide +kernel
theorem dX11_countWays_35 : decode cX11_countWays 35 = .ok (.arraylength, 1) := by decide +kernel
theorem dX11_countWays_36 : decode cX11_countWays 36 = .ok (.iconst 1, 1) := by decide +kernel
theorem dX11_countWays_37 : decode cX11_countWays 37 = .ok (.isub, 1) := by decide +kernel
theorem dX11_countWays_38 : decode cX11_countWays 38 = .ok (.istore 6, 2) := by decide +kernel
theorem dX11_countWays_40 : decode cX11_countWays 40 = .ok (.iload 6, 2) := by decide +kernel
theorem dX11_countWays_42 : decode cX11_countWays 42 = .ok (.ifCond .lt 23, 3) := by decide +kernel
theorem dX11_countWays_45 : decode cX11_countWays 45 = .ok (.aload_n 0, 1) := by decide +kernel
theorem dX11_countWays_46 : decode cX11_countWays 46 = .ok (.getfield 75, 3) := by decide +kernel
theorem dX11_countWays_49 : decode cX11_countWays 49 = .ok (.iload 6, 2) := by decide +kernel
theorem dX11_countWays_51 : decode cX11_countWays 51 = .ok (.aload_n 0, 1) := by decide +kernel
theorem dX11_countWays_52 : decode cX11_countWays 52 = .ok (.iload 6, 2) := by decide +kernel
theorem dX11_countWays_54 : decode cX11_countWays 54 = .ok (.iload_n 2, 1) := by decide +kernel
theorem dX11_countWays_55 : decode cX11_countWays 55 = .ok (.invokevirtual 421, 3) := by decide +kernel
theorem dX11_countWays_58 : decode cX11_countWays 58 = .ok (.lastore, 1) := by decide +kernel
theorem dX11_countWays_59 : decode cX11_countWays 59 = .ok (.iinc 6 (-1), 3) := by decide +kernel
theorem dX11_countWays_62 : decode cX11_countWays 62 = .ok (.goto (-22), 3) := by decide +kernel
theorem dX11_countWays_65 : decode cX11_countWays 65 = .ok (.iinc 5 1, 3) := by decide +kernel
theorem dX11_countWays_68 : decode cX11_countWays 68 = .ok (.goto (-48), 3) := by decide +kernel
theorem dX11_countWays_71 : decode cX11_countWays 71 = .ok (.lload_n 3, 1) := by decide +kernel
theorem dX11_countWays_72 : decode cX11_countWays 72 = .ok (.lreturn, 1) := by decide +kernel
theorem dX11_waysOfOneMore_0 : decode cX11_waysOfOneMore 0 = .ok (.lconst 0, 1) := by decide +kernel
theorem dX11_waysOfOneMore_1 : decode cX11_waysOfOneMore 1 = .ok (.lstore_n 3, 1) := by decide +kernel
theorem dX11_waysOfOneMore_2 : decode cX11_waysOfOneMore 2 = .ok (.iconst 1, 1) := by decide +kernel
theorem dX11_waysOfOneMore_3 : decode cX11_waysOfOneMore 3 = .ok (.istore 5, 2) := by decide +kernel
theorem dX11_waysOfOneMore_5 : decode cX11_waysOfOneMore 5 = .ok (.iload 5, 2) := by decide +kernel
theorem dX11_waysOfOneMore_7 : decode cX11_waysOfOneMore 7 = .ok (.iload_n 2, 1) := by decide +kernel
theorem dX11_waysOfOneMore_8 : decode cX11_waysOfOneMore 8 = .ok (.if_icmp .gt 27, 3) := by decide +kernel
theorem dX11_waysOfOneMore_11 : decode cX11_waysOfOneMore 11 = .ok (.iload 5, 2) := by decide +kernel
theorem dX11_waysOfOneMore_13 : decode cX11_waysOfOneMore 13 = .ok (.iload_n 1, 1) := by decide +kernel
theorem dX11_waysOfOneMore_14 : decode cX11_waysOfOneMore 14 = .ok (.if_icmp .gt 21, 3) := by decide +kernel
theorem dX11_waysOfOneMore_17 : decode cX11_waysOfOneMore 17 = .ok (.lload_n 3, 1) := by decide +kernel
theorem dX11_waysOfOneMore_18 : decode cX11_waysOfOneMore 18 = .ok (.aload_n 0, 1) := by decide +kernel
theorem dX11_waysOfOneMore_19 : decode cX11_waysOfOneMore 19 = .ok (.getfield 75, 3) := by decide +kernel
theorem dX11_waysOfOneMore_22 : decode cX11_waysOfOneMore 22 = .ok (.iload_n 1, 1) := by decide +kernel
theorem dX11_waysOfOneMore_23 : decode cX11_waysOfOneMore 23 = .ok (.iload 5, 2) := by decide +kernel
theorem dX11_waysOfOneMore_25 : decode cX11_waysOfOneMore 25 = .ok (.isub, 1) := by decide +kernel
theorem dX11_waysOfOneMore_26 : decode cX11_waysOfOneMore 26 = .ok (.laload, 1) := by decide +kernel
theorem dX11_waysOfOneMore_27 : decode cX11_waysOfOneMore 27 = .ok (.ladd, 1) := by decide +kernel
theorem dX11_waysOfOneMore_28 : decode cX11_waysOfOneMore 28 = .ok (.lstore_n 3, 1) := by decide +kernel
theorem dX11_waysOfOneMore_29 : decode cX11_waysOfOneMore 29 = .ok (.iinc 5 1, 3) := by decide +kernel
theorem dX11_waysOfOneMore_32 : decode cX11_waysOfOneMore 32 = .ok (.goto (-27), 3) := by decide +kernel
theorem dX11_waysOfOneMore_35 : decode cX11_waysOfOneMore 35 = .ok (.lload_n 3, 1) := by decide +kernel
theorem dX11_waysOfOneMore_36 : decode cX11_waysOfOneMore 36 = .ok (.lreturn, 1) := by decide +kernel
theorem dX11_waysToReach_0 : decode cX11_waysToReach 0 = .ok (.lconst 0, 1) := by decide +kernel
theorem dX11_waysToReach_1 : decode cX11_waysToReach 1 = .ok (.lstore 4, 2) := by decide +kernel
theorem dX11_waysToReach_3 : decode cX11_waysToReach 3 = .ok (.iconst 0, 1) := by decide +kernel
theorem dX11_waysToReach_4 : decode cX11_waysToReach 4 = .ok (.istore 6, 2) := by decide +kernel
theorem dX11_waysToReach_6 : decode cX11_waysToReach 6 = .ok (.iload 6, 2) := by decide +kernel
theorem dX11_waysToReach_8 : decode cX11_waysToReach 8 = .ok (.aload_n 0, 1) := by decide +kernel
theorem dX11_waysToReach_9 : decode cX11_waysToReach 9 = .ok (.getfield 75, 3) := by decide +kernel
theorem dX11_waysToReach_12 : decode cX11_waysToReach 12 = .ok (.arraylength, 1) := by decide +kernel
theorem dX11_waysToReach_13 : decode cX11_waysToReach 13 = .ok (.if_icmp .ge 32, 3) := by decide +kernel
theorem dX11_waysToReach_16 : decode cX11_waysToReach 16 = .ok (.iload 6, 2) := by decide +kernel
theorem dX11_waysToReach_18 : decode cX11_waysToReach 18 = .ok (.i2l, 1) := by decide +kernel
theorem dX11_waysToReach_19 : decode cX11_waysToReach 19 = .ok (.lload_n 2, 1) := by decide +kernel
theorem dX11_waysToReach_20 : decode cX11_waysToReach 20 = .ok (.ladd, 1) := by decide +kernel
theorem dX11_waysToReach_21 : decode cX11_waysToReach 21 = .ok (.iload_n 1, 1) := by decide +kernel
theorem dX11_waysToReach_22 : decode cX11_waysToReach 22 = .ok (.i2l, 1) := by decide +kernel
theorem dX11_waysToReach_23 : decode cX11_waysToReach 23 = .ok (.lcmp, 1) := by decide +kernel
theorem dX11_waysToReach_24 : decode cX11_waysToReach 24 = .ok (.ifCond .lt 15, 3) := by decide +kernel
theorem dX11_waysToReach_27 : decode cX11_waysToReach 27 = .ok (.lload 4, 2) := by decide +kernel
theorem dX11_waysToReach_29 : decode cX11_waysToReach 29 = .ok (.aload_n 0, 1) := by decide +kernel
theorem dX11_waysToReach_30 : decode cX11_waysToReach 30 = .ok (.getfield 75, 3) := by decide +kernel
theorem dX11_waysToReach_33 : decode cX11_waysToReach 33 = .ok (.iload 6, 2) := by decide +kernel
theorem dX11_waysToReach_35 : decode cX11_waysToReach 35 = .ok (.laload, 1) := by decide +kernel
theorem dX11_waysToReach_36 : decode cX11_waysToReach 36 = .ok (.ladd, 1) := by decide +kernel
theorem dX11_waysToReach_37 : decode cX11_waysToReach 37 = .ok (.lstore 4, 2) := by decide +kernel
theorem dX11_waysToReach_39 : decode cX11_waysToReach 39 = .ok (.iinc 6 1, 3) := by decide +kernel
theorem dX11_waysToReach_42 : decode cX11_waysToReach 42 = .ok (.goto (-36), 3) := by decide +kernel
theorem dX11_waysToReach_45 : decode cX11_waysToReach 45 = .ok (.lload 4, 2) := by decide +kernel
theorem dX11_waysToReach_47 : decode cX11_waysToReach 47 = .ok (.lreturn, 1) := by decide +kernel
theorem dX11_commonDivisor_0 : decode cX11_commonDivisor 0 = .ok (.lload_n 0, 1) := by decide +kernel
theorem dX11_commonDivisor_1 : decode cX11_commonDivisor 1 = .ok (.lstore 4, 2) := by decide +kernel
theorem dX11_commonDivisor_3 : decode cX11_commonDivisor 3 = .ok (.lload_n 2, 1) := by decide +kernel
theorem dX11_commonDivisor_4 : decode cX11_commonDivisor 4 = .ok (.lstore 6, 2) := by decide +kernel
theorem dX11_commonDivisor_6 : decode cX11_commonDivisor 6 = .ok (.iconst 0, 1) := by decide +kernel
theorem dX11_commonDivisor_7 : decode cX11_commonDivisor 7 = .ok (.istore 8, 2) := by decide +kernel
theorem dX11_commonDivisor_9 : decode cX11_commonDivisor 9 = .ok (.iload 8, 2) := by decide +kernel
theorem dX11_commonDivisor_11 : decode cX11_commonDivisor 11 = .ok (.bipush 100, 2) := by decide +kernel
theorem dX11_commonDivisor_13 : decode cX11_commonDivisor 13 = .ok (.if_icmp .ge 31, 3) := by decide +kernel
theorem dX11_commonDivisor_16 : decode cX11_commonDivisor 16 = .ok (.lload 6, 2) := by decide +kernel
theorem dX11_commonDivisor_18 : decode cX11_commonDivisor 18 = .ok (.lconst 0, 1) := by decide +kernel
theorem dX11_commonDivisor_19 : decode cX11_commonDivisor 19 = .ok (.lcmp, 1) := by decide +kernel
theorem dX11_commonDivisor_20 : decode cX11_commonDivisor 20 = .ok (.ifCond .eq 24, 3) := by decide +kernel
theorem dX11_commonDivisor_23 : decode cX11_commonDivisor 23 = .ok (.lload 4, 2) := by decide +kernel
theorem dX11_commonDivisor_25 : decode cX11_commonDivisor 25 = .ok (.lload 6, 2) := by decide +kernel
theorem dX11_commonDivisor_27 : decode cX11_commonDivisor 27 = .ok (.lrem, 1) := by decide +kernel
theorem dX11_commonDivisor_28 : decode cX11_commonDivisor 28 = .ok (.lstore 9, 2) := by decide +kernel
theorem dX11_commonDivisor_30 : decode cX11_commonDivisor 30 = .ok (.lload 6, 2) := by decide +kernel
theorem dX11_commonDivisor_32 : decode cX11_commonDivisor 32 = .ok (.lstore 4, 2) := by decide +kernel
theorem dX11_commonDivisor_34 : decode cX11_commonDivisor 34 = .ok (.lload 9, 2) := by decide +kernel
theorem dX11_commonDivisor_36 : decode cX11_commonDivisor 36 = .ok (.lstore 6, 2) := by decide +kernel
theorem dX11_commonDivisor_38 : decode cX11_commonDivisor 38 = .ok (.iinc 8 1, 3) := by decide +kernel
theorem dX11_commonDivisor_41 : decode cX11_commonDivisor 41 = .ok (.goto (-32), 3) := by decide +kernel
theorem dX11_commonDivisor_44 : decode cX11_commonDivisor 44 = .ok (.lload 4, 2) := by decide +kernel
theorem dX11_commonDivisor_46 : decode cX11_commonDivisor 46 = .ok (.lconst 0, 1) := by decide +kernel
theorem dX11_commonDivisor_47 : decode cX11_commonDivisor 47 = .ok (.lcmp, 1) := by decide +kernel
theorem dX11_commonDivisor_48 : decode cX11_commonDivisor 48 = .ok (.ifCond .ne 7, 3) := by decide +kernel
theorem dX11_commonDivisor_51 : decode cX11_commonDivisor 51 = .ok (.lconst 1, 1) := by decide +kernel
theorem dX11_commonDivisor_52 : decode cX11_commonDivisor 52 = .ok (.goto 5, 3) := by decide +kernel
theorem dX11_commonDivisor_55 : decode cX11_commonDivisor 55 = .ok (.lload 4, 2) := by decide +kernel
theorem dX11_commonDivisor_57 : decode cX11_commonDivisor 57 = .ok (.lreturn, 1) := by decide +kernel
theorem dX11_takenForKind_0 : decode cX11_takenForKind 0 = .ok (.aload_n 1, 1) := by decide +kernel
theorem dX11_takenForKind_1 : decode cX11_takenForKind 1 = .ok (.ifnonnull 10, 3) := by decide +kernel
theorem dX11_takenForKind_4 : decode cX11_takenForKind 4 = .ok (.aload_n 0, 1) := by decide +kernel
theorem dX11_takenForKind_5 : decode cX11_takenForKind 5 = .ok (.bipush 10, 2) := by decide +kernel
theorem dX11_takenForKind_7 : decode cX11_takenForKind 7 = .ok (.invokevirtual 87, 3) := by decide +kernel
theorem dX11_takenForKind_10 : decode cX11_takenForKind 10 = .ok (.ireturn, 1) := by decide +kernel
theorem dX11_takenForKind_11 : decode cX11_takenForKind 11 = .ok (.iload_n 2, 1) := by decide +kernel
theorem dX11_takenForKind_12 : decode cX11_takenForKind 12 = .ok (.ifCond .eq 23, 3) := by decide +kernel
theorem dX11_takenForKind_15 : decode cX11_takenForKind 15 = .ok (.aload_n 1, 1) := by decide +kernel
theorem dX11_takenForKind_16 : decode cX11_takenForKind 16 = .ok (.getfield 220, 3) := by decide +kernel
theorem dX11_takenForKind_19 : decode cX11_takenForKind 19 = .ok (.iload_n 2, 1) := by decide +kernel
theorem dX11_takenForKind_20 : decode cX11_takenForKind 20 = .ok (.if_icmp .eq 15, 3) := by decide +kernel
theorem dX11_takenForKind_23 : decode cX11_takenForKind 23 = .ok (.iload_n 2, 1) := by decide +kernel
theorem dX11_takenForKind_24 : decode cX11_takenForKind 24 = .ok (.iconst 5, 1) := by decide +kernel
theorem dX11_takenForKind_25 : decode cX11_takenForKind 25 = .ok (.if_icmp .ne 14, 3) := by decide +kernel
theorem dX11_takenForKind_28 : decode cX11_takenForKind 28 = .ok (.aload_n 1, 1) := by decide +kernel
theorem dX11_takenForKind_29 : decode cX11_takenForKind 29 = .ok (.instanceof 379, 3) := by decide +kernel
theorem dX11_takenForKind_32 : decode cX11_takenForKind 32 = .ok (.ifCond .eq 7, 3) := by decide +kernel
theorem dX11_takenForKind_35 : decode cX11_takenForKind 35 = .ok (.iconst 1, 1) := by decide +kernel
theorem dX11_takenForKind_36 : decode cX11_takenForKind 36 = .ok (.goto 4, 3) := by decide +kernel
theorem dX11_takenForKind_39 : decode cX11_takenForKind 39 = .ok (.iconst 0, 1) := by decide +kernel
theorem dX11_takenForKind_40 : decode cX11_takenForKind 40 = .ok (.istore_n 3, 1) := by decide +kernel
theorem dX11_takenForKind_41 : decode cX11_takenForKind 41 = .ok (.iload_n 3, 1) := by decide +kernel
theorem dX11_takenForKind_42 : decode cX11_takenForKind 42 = .ok (.ifCond .eq 14, 3) := by decide +kernel
theorem dX11_takenForKind_45 : decode cX11_takenForKind 45 = .ok (.aload_n 0, 1) := by decide +kernel
theorem dX11_takenForKind_46 : decode cX11_takenForKind 46 = .ok (.aload_n 1, 1) := by decide +kernel
theorem dX11_takenForKind_47 : decode cX11_takenForKind 47 = .ok (.getfield 220, 3) := by decide +kernel
theorem dX11_takenForKind_50 : decode cX11_takenForKind 50 = .ok (.invokevirtual 100, 3) := by decide +kernel
theorem dX11_takenForKind_53 : decode cX11_takenForKind 53 = .ok (.goto 9, 3) := by decide +kernel
theorem dX11_takenForKind_56 : decode cX11_takenForKind 56 = .ok (.aload_n 0, 1) := by decide +kernel
theorem dX11_takenForKind_57 : decode cX11_takenForKind 57 = .ok (.bipush 11, 2) := by decide +kernel
theorem dX11_takenForKind_59 : decode cX11_takenForKind 59 = .ok (.invokevirtual 87, 3) := by decide +kernel
theorem dX11_takenForKind_62 : decode cX11_takenForKind 62 = .ok (.ireturn, 1) := by decide +kernel
theorem dX11_readFromShorts_0 : decode cX11_readFromShorts 0 = .ok (.aload_n 0, 1) := by decide +kernel
theorem dX11_readFromShorts_1 : decode cX11_readFromShorts 1 = .ok (.getfield 69, 3) := by decide +kernel
theorem dX11_readFromShorts_4 : decode cX11_readFromShorts 4 = .ok (.iload_n 1, 1) := by decide +kernel
theorem dX11_readFromShorts_5 : decode cX11_readFromShorts 5 = .ok (.iaload, 1) := by decide +kernel
theorem dX11_readFromShorts_6 : decode cX11_readFromShorts 6 = .ok (.iconst (-1), 1) := by decide +kernel
theorem dX11_readFromShorts_7 : decode cX11_readFromShorts 7 = .ok (.if_icmp .ne 10, 3) := by decide +kernel
theorem dX11_readFromShorts_10 : decode cX11_readFromShorts 10 = .ok (.aload_n 0, 1) := by decide +kernel
theorem dX11_readFromShorts_11 : decode cX11_readFromShorts 11 = .ok (.bipush 10, 2) := by decide +kernel
theorem dX11_readFromShorts_13 : decode cX11_readFromShorts 13 = .ok (.invokevirtual 87, 3) := by decide +kernel
theorem dX11_readFromShorts_16 : decode cX11_readFromShorts 16 = .ok (.ireturn, 1) := by decide +kernel
theorem dX11_readFromShorts_17 : decode cX11_readFromShorts 17 = .ok (.aload_n 0, 1) := by decide +kernel
theorem dX11_readFromShorts_18 : decode cX11_readFromShorts 18 = .ok (.getfield 69, 3) := by decide +kernel
theorem dX11_readFromShorts_21 : decode cX11_readFromShorts 21 = .ok (.iload_n 1, 1) := by decide +kernel
theorem dX11_readFromShorts_22 : decode cX11_readFromShorts 22 = .ok (.iaload, 1) := by decide +kernel
theorem dX11_readFromShorts_23 : decode cX11_readFromShorts 23 = .ok (.iconst 1, 1) := by decide +kernel
theorem dX11_readFromShorts_24 : decode cX11_readFromShorts 24 = .ok (.if_icmp .eq 10, 3) := by decide +kernel
theorem dX11_readFromShorts_27 : decode cX11_readFromShorts 27 = .ok (.aload_n 0, 1) := by decide +kernel
theorem dX11_readFromShorts_28 : decode cX11_readFromShorts 28 = .ok (.bipush 11, 2) := by decide +kernel
theorem dX11_readFromShorts_30 : decode cX11_readFromShorts 30 = .ok (.invokevirtual 87, 3) := by decide +kernel
theorem dX11_readFromShorts_33 : decode cX11_readFromShorts 33 = .ok (.ireturn, 1) := by decide +kernel
theorem dX11_readFromShorts_34 : decode cX11_readFromShorts 34 = .ok (.iload_n 2, 1) := by decide +kernel
theorem dX11_readFromShorts_35 : decode cX11_readFromShorts 35 = .ok (.ifCond .lt 13, 3) := by decide +kernel
theorem dX11_readFromShorts_38 : decode cX11_readFromShorts 38 = .ok (.iload_n 2, 1) := by decide +kernel
theorem dX11_readFromShorts_39 : decode cX11_readFromShorts 39 = .ok (.aload_n 0, 1) := by decide +kernel
theorem dX11_readFromShorts_40 : decode cX11_readFromShorts 40 = .ok (.getfield 72, 3) := by decide +kernel
theorem dX11_readFromShorts_43 : decode cX11_readFromShorts 43 = .ok (.iload_n 1, 1) := by decide +kernel
theorem dX11_readFromShorts_44 : decode cX11_readFromShorts 44 = .ok (.iaload, 1) := by decide +kernel
theorem dX11_readFromShorts_45 : decode cX11_readFromShorts 45 = .ok (.if_icmp .lt 12, 3) := by decide +kernel
theorem dX11_readFromShorts_48 : decode cX11_readFromShorts 48 = .ok (.aload_n 0, 1) := by decide +kernel
theorem dX11_readFromShorts_49 : decode cX11_readFromShorts 49 = .ok (.bipush 12, 2) := by decide +kernel
theorem dX11_readFromShorts_51 : decode cX11_readFromShorts 51 = .ok (.invokevirtual 87, 3) := by decide +kernel
theorem dX11_readFromShorts_54 : decode cX11_readFromShorts 54 = .ok (.goto 15, 3) := by decide +kernel
theorem dX11_readFromShorts_57 : decode cX11_readFromShorts 57 = .ok (.aload_n 0, 1) := by decide +kernel
theorem dX11_readFromShorts_58 : decode cX11_readFromShorts 58 = .ok (.aload_n 0, 1) := by decide +kernel
theorem dX11_readFromShorts_59 : decode cX11_readFromShorts 59 = .ok (.getfield 66, 3) := by decide +kernel
theorem dX11_readFromShorts_62 : decode cX11_readFromShorts 62 = .ok (.iload_n 1, 1) := by decide +kernel
theorem dX11_readFromShorts_63 : decode cX11_readFromShorts 63 = .ok (.aaload, 1) := by decide +kernel
theorem dX11_readFromShorts_64 : decode cX11_readFromShorts 64 = .ok (.iload_n 2, 1) := by decide +kernel
theorem dX11_readFromShorts_65 : decode cX11_readFromShorts 65 = .ok (.iaload, 1) := by decide +kernel
theorem dX11_readFromShorts_66 : decode cX11_readFromShorts 66 = .ok (.invokevirtual 100, 3) := by decide +kernel
theorem dX11_readFromShorts_69 : decode cX11_readFromShorts 69 = .ok (.ireturn, 1) := by decide +kernel
theorem dX11_copiedFromBytes_0 : decode cX11_copiedFromBytes 0 = .ok (.aload_n 0, 1) := by decide +kernel
theorem dX11_copiedFromBytes_1 : decode cX11_copiedFromBytes 1 = .ok (.getfield 69, 3) := by decide +kernel
theorem dX11_copiedFromBytes_4 : decode cX11_copiedFromBytes 4 = .ok (.iload_n 1, 1) := by decide +kernel
theorem dX11_copiedFromBytes_5 : decode cX11_copiedFromBytes 5 = .ok (.iaload, 1) := by decide +kernel
theorem dX11_copiedFromBytes_6 : decode cX11_copiedFromBytes 6 = .ok (.iconst (-1), 1) := by decide +kernel
theorem dX11_copiedFromBytes_7 : decode cX11_copiedFromBytes 7 = .ok (.if_icmp .ne 10, 3) := by decide +kernel
theorem dX11_copiedFromBytes_10 : decode cX11_copiedFromBytes 10 = .ok (.aload_n 0, 1) := by decide +kernel
theorem dX11_copiedFromBytes_11 : decode cX11_copiedFromBytes 11 = .ok (.bipush 10, 2) := by decide +kernel
theorem dX11_copiedFromBytes_13 : decode cX11_copiedFromBytes 13 = .ok (.invokevirtual 87, 3) := by decide +kernel
theorem dX11_copiedFromBytes_16 : decode cX11_copiedFromBytes 16 = .ok (.ireturn, 1) := by decide +kernel
theorem dX11_copiedFromBytes_17 : decode cX11_copiedFromBytes 17 = .ok (.aload_n 0, 1) := by decide +kernel
theorem dX11_copiedFromBytes_18 : decode cX11_copiedFromBytes 18 = .ok (.getfield 69, 3) := by decide +kernel
theorem dX11_copiedFromBytes_21 : decode cX11_copiedFromBytes 21 = .ok (.iload_n 1, 1) := by decide +kernel
theorem dX11_copiedFromBytes_22 : decode cX11_copiedFromBytes 22 = .ok (.iaload, 1) := by decide +kernel
theorem dX11_copiedFromBytes_23 : decode cX11_copiedFromBytes 23 = .ok (.ifCond .eq 10, 3) := by decide +kernel
theorem dX11_copiedFromBytes_26 : decode cX11_copiedFromBytes 26 = .ok (.aload_n 0, 1) := by decide +kernel
theorem dX11_copiedFromBytes_27 : decode cX11_copiedFromBytes 27 = .ok (.bipush 11, 2) := by decide +kernel
theorem dX11_copiedFromBytes_29 : decode cX11_copiedFromBytes 29 = .ok (.invokevirtual 87, 3) := by decide +kernel
theorem dX11_copiedFromBytes_32 : decode cX11_copiedFromBytes 32 = .ok (.ireturn, 1) := by decide +kernel
theorem dX11_copiedFromBytes_33 : decode cX11_copiedFromBytes 33 = .ok (.iload_n 2, 1) := by decide +kernel
theorem dX11_copiedFromBytes_34 : decode cX11_copiedFromBytes 34 = .ok (.ifCond .lt 23, 3) := by decide +kernel
theorem dX11_copiedFromBytes_37 : decode cX11_copiedFromBytes 37 = .ok (.iconst 1, 1) := by decide +kernel
theorem dX11_copiedFromBytes_38 : decode cX11_copiedFromBytes 38 = .ok (.iload_n 2, 1) := by decide +kernel
theorem dX11_copiedFromBytes_39 : decode cX11_copiedFromBytes 39 = .ok (.iadd, 1) := by decide +kernel
theorem dX11_copiedFromBytes_40 : decode cX11_copiedFromBytes 40 = .ok (.aload_n 0, 1) := by decide +kernel
theorem dX11_copiedFromBytes_41 : decode cX11_copiedFromBytes 41 = .ok (.getfield 72, 3) := by decide +kernel
theorem dX11_copiedFromBytes_44 : decode cX11_copiedFromBytes 44 = .ok (.iload_n 1, 1) := by decide +kernel
theorem dX11_copiedFromBytes_45 : decode cX11_copiedFromBytes 45 = .ok (.iaload, 1) := by decide +kernel
theorem dX11_copiedFromBytes_46 : decode cX11_copiedFromBytes 46 = .ok (.if_icmp .gt 11, 3) := by decide +kernel
theorem dX11_copiedFromBytes_49 : decode cX11_copiedFromBytes 49 = .ok (.iload_n 2, 1) := by decide +kernel
theorem dX11_copiedFromBytes_50 : decode cX11_copiedFromBytes 50 = .ok (.iload_n 2, 1) := by decide +kernel
theorem dX11_copiedFromBytes_51 : decode cX11_copiedFromBytes 51 = .ok (.iadd, 1) := by decide +kernel
theorem dX11_copiedFromBytes_52 : decode cX11_copiedFromBytes 52 = .ok (.bipush 6, 2) := by decide +kernel
theorem dX11_copiedFromBytes_54 : decode cX11_copiedFromBytes 54 = .ok (.if_icmp .le 10, 3) := by decide +kernel
theorem dX11_copiedFromBytes_57 : decode cX11_copiedFromBytes 57 = .ok (.aload_n 0, 1) := by decide +kernel
theorem dX11_copiedFromBytes_58 : decode cX11_copiedFromBytes 58 = .ok (.bipush 12, 2) := by decide +kernel
theorem dX11_copiedFromBytes_60 : decode cX11_copiedFromBytes 60 = .ok (.invokevirtual 87, 3) := by decide +kernel
theorem dX11_copiedFromBytes_63 : decode cX11_copiedFromBytes 63 = .ok (.ireturn, 1) := by decide +kernel
theorem dX11_copiedFromBytes_64 : decode cX11_copiedFromBytes 64 = .ok (.iconst 0, 1) := by decide +kernel
theorem dX11_copiedFromBytes_65 : decode cX11_copiedFromBytes 65 = .ok (.istore_n 3, 1) := by decide +kernel
theorem dX11_copiedFromBytes_66 : decode cX11_copiedFromBytes 66 = .ok (.iconst 1, 1) := by decide +kernel
theorem dX11_copiedFromBytes_67 : decode cX11_copiedFromBytes 67 = .ok (.istore 4, 2) := by decide +kernel
theorem dX11_copiedFromBytes_69 : decode cX11_copiedFromBytes 69 = .ok (.iload 4, 2) := by decide +kernel
theorem dX11_copiedFromBytes_71 : decode cX11_copiedFromBytes 71 = .ok (.iload_n 2, 1) := by decide +kernel
theorem dX11_copiedFromBytes_72 : decode cX11_copiedFromBytes 72 = .ok (.if_icmp .gt 21, 3) := by decide +kernel
theorem dX11_copiedFromBytes_75 : decode cX11_copiedFromBytes 75 = .ok (.iload_n 3, 1) := by decide +kernel
theorem dX11_copiedFromBytes_76 : decode cX11_copiedFromBytes 76 = .ok (.aload_n 0, 1) := by decide +kernel
theorem dX11_copiedFromBytes_77 : decode cX11_copiedFromBytes 77 = .ok (.getfield 66, 3) := by decide +kernel
theorem dX11_copiedFromBytes_80 : decode cX11_copiedFromBytes 80 = .ok (.iload_n 1, 1) := by decide +kernel
theorem dX11_copiedFromBytes_81 : decode cX11_copiedFromBytes 81 = .ok (.aaload, 1) := by decide +kernel
theorem dX11_copiedFromBytes_82 : decode cX11_copiedFromBytes 82 = .ok (.iload 4, 2) := by decide +kernel
theorem dX11_copiedFromBytes_84 : decode cX11_copiedFromBytes 84 = .ok (.iaload, 1) := by decide +kernel
theorem dX11_copiedFromBytes_85 : decode cX11_copiedFromBytes 85 = .ok (.iadd, 1) := by decide +kernel
theorem dX11_copiedFromBytes_86 : decode cX11_copiedFromBytes 86 = .ok (.istore_n 3, 1) := by decide +kernel
theorem dX11_copiedFromBytes_87 : decode cX11_copiedFromBytes 87 = .ok (.iinc 4 1, 3) := by decide +kernel
theorem dX11_copiedFromBytes_90 : decode cX11_copiedFromBytes 90 = .ok (.goto (-21), 3) := by decide +kernel
theorem dX11_copiedFromBytes_93 : decode cX11_copiedFromBytes 93 = .ok (.aload_n 0, 1) := by decide +kernel
theorem dX11_copiedFromBytes_94 : decode cX11_copiedFromBytes 94 = .ok (.iload_n 3, 1) := by decide +kernel
theorem dX11_copiedFromBytes_95 : decode cX11_copiedFromBytes 95 = .ok (.invokevirtual 100, 3) := by decide +kernel
theorem dX11_copiedFromBytes_98 : decode cX11_copiedFromBytes 98 = .ok (.ireturn, 1) := by decide +kernel
theorem dX11_putAmongOpens_0 : decode cX11_putAmongOpens 0 = .ok (.aload_n 1, 1) := by decide +kernel
theorem dX11_putAmongOpens_1 : decode cX11_putAmongOpens 1 = .ok (.ifnonnull 9, 3) := by decide +kernel
theorem dX11_putAmongOpens_4 : decode cX11_putAmongOpens 4 = .ok (.aload_n 0, 1) := by decide +kernel
theorem dX11_putAmongOpens_5 : decode cX11_putAmongOpens 5 = .ok (.iconst 0, 1) := by decide +kernel
theorem dX11_putAmongOpens_6 : decode cX11_putAmongOpens 6 = .ok (.invokevirtual 100, 3) := by decide +kernel
theorem dX11_putAmongOpens_9 : decode cX11_putAmongOpens 9 = .ok (.ireturn, 1) := by decide +kernel
theorem dX11_putAmongOpens_10 : decode cX11_putAmongOpens 10 = .ok (.aload_n 1, 1) := by decide +kernel
theorem dX11_putAmongOpens_11 : decode cX11_putAmongOpens 11 = .ok (.instanceof 379, 3) := by decide +kernel
theorem dX11_putAmongOpens_14 : decode cX11_putAmongOpens 14 = .ok (.ifCond .eq 14, 3) := by decide +kernel
theorem dX11_putAmongOpens_17 : decode cX11_putAmongOpens 17 = .ok (.aload_n 0, 1) := by decide +kernel
theorem dX11_putAmongOpens_18 : decode cX11_putAmongOpens 18 = .ok (.aload_n 1, 1) := by decide +kernel
theorem dX11_putAmongOpens_19 : decode cX11_putAmongOpens 19 = .ok (.getfield 220, 3) := by decide +kernel
theorem dX11_putAmongOpens_22 : decode cX11_putAmongOpens 22 = .ok (.invokevirtual 100, 3) := by decide +kernel
theorem dX11_putAmongOpens_25 : decode cX11_putAmongOpens 25 = .ok (.goto 9, 3) := by decide +kernel
theorem dX11_putAmongOpens_28 : decode cX11_putAmongOpens 28 = .ok (.aload_n 0, 1) := by decide +kernel
theorem dX11_putAmongOpens_29 : decode cX11_putAmongOpens 29 = .ok (.bipush 14, 2) := by decide +kernel
theorem dX11_putAmongOpens_31 : decode cX11_putAmongOpens 31 = .ok (.invokevirtual 87, 3) := by decide +kernel
theorem dX11_putAmongOpens_34 : decode cX11_putAmongOpens 34 = .ok (.ireturn, 1) := by decide +kernel
theorem dX12_init_0 : decode cX12_init 0 = .ok (.aload_n 0, 1) := by decide +kernel
theorem dX12_init_1 : decode cX12_init 1 = .ok (.invokespecial 1, 3) := by decide +kernel
theorem dX12_init_4 : decode cX12_init 4 = .ok (.aload_n 0, 1) := by decide +kernel
theorem dX12_init_5 : decode cX12_init 5 = .ok (.bipush 10, 2) := by decide +kernel
theorem dX12_init_7 : decode cX12_init 7 = .ok (.newarray .int, 2) := by decide +kernel
theorem dX12_init_9 : decode cX12_init 9 = .ok (.putfield 7, 3) := by decide +kernel
theorem dX12_init_12 : decode cX12_init 12 = .ok (.aload_n 0, 1) := by decide +kernel
theorem dX12_init_13 : decode cX12_init 13 = .ok (.bipush 10, 2) := by decide +kernel
theorem dX12_init_15 : decode cX12_init 15 = .ok (.newarray .int, 2) := by decide +kernel
theorem dX12_init_17 : decode cX12_init 17 = .ok (.putfield 13, 3) := by decide +kernel
theorem dX12_init_20 : decode cX12_init 20 = .ok (.aload_n 0, 1) := by decide +kernel
theorem dX12_init_21 : decode cX12_init 21 = .ok (.bipush 10, 2) := by decide +kernel
theorem dX12_init_23 : decode cX12_init 23 = .ok (.newarray .int, 2) := by decide +kernel
theorem dX12_init_25 : decode cX12_init 25 = .ok (.putfield 16, 3) := by decide +kernel
theorem dX12_init_28 : decode cX12_init 28 = .ok (.aload_n 0, 1) := by decide +kernel
theorem dX12_init_29 : decode cX12_init 29 = .ok (.bipush 10, 2) := by decide +kernel
theorem dX12_init_31 : decode cX12_init 31 = .ok (.newarray .int, 2) := by decide +kernel
theorem dX12_init_33 : decode cX12_init 33 = .ok (.putfield 19, 3) := by decide +kernel
theorem dX12_init_36 : decode cX12_init 36 = .ok (.aload_n 0, 1) := by decide +kernel
theorem dX12_init_37 : decode cX12_init 37 = .ok (.bipush 10, 2) := by decide +kernel
theorem dX12_init_39 : decode cX12_init 39 = .ok (.newarray .int, 2) := by decide +kernel
theorem dX12_init_41 : decode cX12_init 41 = .ok (.putfield 22, 3) := by decide +kernel
theorem dX12_init_44 : decode cX12_init 44 = .ok (.aload_n 0, 1) := by decide +kernel
theorem dX12_init_45 : decode cX12_init 45 = .ok (.bipush 30, 2) := by decide +kernel
theorem dX12_init_47 : decode cX12_init 47 = .ok (.newarray .int, 2) := by decide +kernel
theorem dX12_init_49 : decode cX12_init 49 = .ok (.putfield 25, 3) := by decide +kernel
theorem dX12_init_52 : decode cX12_init 52 = .ok (.aload_n 0, 1) := by decide +kernel
theorem dX12_init_53 : decode cX12_init 53 = .ok (.bipush 30, 2) := by decide +kernel
theorem dX12_init_55 : decode cX12_init 55 = .ok (.newarray .int, 2) := by decide +kernel
theorem dX12_init_57 : decode cX12_init 57 = .ok (.putfield 28, 3) := by decide +kernel
theorem dX12_init_60 : decode cX12_init 60 = .ok (.aload_n 0, 1) := by decide +kernel
theorem dX12_init_61 : decode cX12_init 61 = .ok (.bipush 30, 2) := by decide +kernel
theorem dX12_init_63 : decode cX12_init 63 = .ok (.newarray .int, 2) := by decide +kernel
theorem dX12_init_65 : decode cX12_init 65 = .ok (.putfield 31, 3) := by decide +kernel
theorem dX12_init_68 : decode cX12_init 68 = .ok (.aload_n 0, 1) := by decide +kernel
theorem dX12_init_69 : decode cX12_init 69 = .ok (.bipush 30, 2) := by decide +kernel
theorem dX12_init_71 : decode cX12_init 71 = .ok (.newarray .int, 2) := by decide +kernel
theorem dX12_init_73 : decode cX12_init 73 = .ok (.putfield 34, 3) := by decide +kernel
theorem dX12_init_76 : decode cX12_init 76 = .ok (.aload_n 0, 1) := by decide +kernel
theorem dX12_init_77 : decode cX12_init 77 = .ok (.bipush 30, 2) := by decide +kernel
theorem dX12_init_79 : decode cX12_init 79 = .ok (.newarray .int, 2) := by decide +kernel
theorem dX12_init_81 : decode cX12_init 81 = .ok (.putfield 37, 3) := by decide +kernel
theorem dX12_init_84 : decode cX12_init 84 = .ok (.aload_n 0, 1) := by decide +kernel
theorem dX12_init_85 : decode cX12_init 85 = .ok (.bipush 30, 2) := by decide +kernel
theorem dX12_init_87 : decode cX12_init 87 = .ok (.newarray .int, 2) := by decide +kernel
theorem dX12_init_89 : decode cX12_init 89 = .ok (.putfield 40, 3) := by decide +kernel
theorem dX12_init_92 : decode cX12_init 92 = .ok (.aload_n 0, 1) := by decide +kernel
theorem dX12_init_93 : decode cX12_init 93 = .ok (.bipush 30, 2) := by decide +kernel
theorem dX12_init_95 : decode cX12_init 95 = .ok (.newarray .int, 2) := by decide +kernel
theorem dX12_init_97 : decode cX12_init 97 = .ok (.putfield 43, 3) := by decide +kernel
theorem dX12_init_100 : decode cX12_init 100 = .ok (.aload_n 0, 1) := by decide +kernel
theorem dX12_init_101 : decode cX12_init 101 = .ok (.bipush 30, 2) := by decide +kernel
theorem dX12_init_103 : decode cX12_init 103 = .ok (.newarray .int, 2) := by decide +kernel
theorem dX12_init_105 : decode cX12_init 105 = .ok (.putfield 46, 3) := by decide +kernel
theorem dX12_init_108 : decode cX12_init 108 = .ok (.aload_n 0, 1) := by decide +kernel
theorem dX12_init_109 : decode cX12_init 109 = .ok (.bipush 30, 2) := by decide +kernel
theorem dX12_init_111 : decode cX12_init 111 = .ok (.newarray .int, 2) := by decide +kernel
theorem dX12_init_113 : decode cX12_init 113 = .ok (.putfield 49, 3) := by decide +kernel
theorem dX12_init_116 : decode cX12_init 116 = .ok (.aload_n 0, 1) := by decide +kernel
theorem dX12_init_117 : decode cX12_init 117 = .ok (.bipush 30, 2) := by decide +kernel
theorem dX12_init_119 : decode cX12_init 119 = .ok (.newarray .int, 2) := by decide +kernel
theorem dX12_init_121 : decode cX12_init 121 = .ok (.putfield 52, 3) := by decide +kernel
theorem dX12_init_124 : decode cX12_init 124 = .ok (.aload_n 0, 1) := by decide +kernel
theorem dX12_init_125 : decode cX12_init 125 = .ok (.bipush 30, 2) := by decide +kernel
theorem dX12_init_127 : decode cX12_init 127 = .ok (.newarray .int, 2) := by decide +kernel
theorem dX12_init_129 : decode cX12_init 129 = .ok (.putfield 55, 3) := by decide +kernel
theorem dX12_init_132 : decode cX12_init 132 = .ok (.aload_n 0, 1) := by decide +kernel
theorem dX12_init_133 : decode cX12_init 133 = .ok (.bipush 30, 2) := by decide +kernel
theorem dX12_init_135 : decode cX12_init 135 = .ok (.newarray .int, 2) := by decide +kernel
theorem dX12_init_137 : decode cX12_init 137 = .ok (.putfield 58, 3) := by decide +kernel
theorem dX12_init_140 : decode cX12_init 140 = .ok (.aload_n 0, 1) := by decide +kernel
theorem dX12_init_141 : decode cX12_init 141 = .ok (.bipush 10, 2) := by decide +kernel
theorem dX12_init_143 : decode cX12_init 143 = .ok (.newarray .int, 2) := by decide +kernel
theorem dX12_init_145 : decode cX12_init 145 = .ok (.putfield 61, 3) := by decide +kernel
theorem dX12_init_148 : decode cX12_init 148 = .ok (.aload_n 0, 1) := by decide +kernel
theorem dX12_init_149 : decode cX12_init 149 = .ok (.bipush 10, 2) := by decide +kernel
theorem dX12_init_151 : decode cX12_init 151 = .ok (.newarray .int, 2) := by decide +kernel
theorem dX12_init_153 : decode cX12_init 153 = .ok (.putfield 64, 3) := by decide +kernel
theorem dX12_init_156 : decode cX12_init 156 = .ok (.aload_n 0, 1) := by decide +kernel
theorem dX12_init_157 : decode cX12_init 157 = .ok (.bipush 10, 2) := by decide +kernel
theorem dX12_init_159 : decode cX12_init 159 = .ok (.newarray .int, 2) := by decide +kernel
theorem dX12_init_161 : decode cX12_init 161 = .ok (.putfield 67, 3) := by decide +kernel
theorem dX12_init_164 : decode cX12_init 164 = .ok (.aload_n 0, 1) := by decide +kernel
theorem dX12_init_165 : decode cX12_init 165 = .ok (.bipush 7, 2) := by decide +kernel
theorem dX12_init_167 : decode cX12_init 167 = .ok (.newarray .int, 2) := by decide +kernel
theorem dX12_init_169 : decode cX12_init 169 = .ok (.putfield 70, 3) := by decide +kernel
theorem dX12_init_172 : decode cX12_init 172 = .ok (.aload_n 0, 1) := by decide +kernel
theorem dX12_init_173 : decode cX12_init 173 = .ok (.sipush 450, 3) := by decide +kernel
theorem dX12_init_176 : decode cX12_init 176 = .ok (.newarray .int, 2) := by decide +kernel
theorem dX12_init_178 : decode cX12_init 178 = .ok (.putfield 73, 3) := by decide +kernel
theorem dX12_init_181 : decode cX12_init 181 = .ok (.aload_n 0, 1) := by decide +kernel
theorem dX12_init_182 : decode cX12_init 182 = .ok (.bipush 10, 2) := by decide +kernel
theorem dX12_init_184 : decode cX12_init 184 = .ok (.newarray .int, 2) := by decide +kernel
theorem dX12_init_186 : decode cX12_init 186 = .ok (.putfield 76, 3) := by decide +kernel
theorem dX12_init_189 : decode cX12_init 189 = .ok (.aload_n 0, 1) := by decide +kernel
theorem dX12_init_190 : decode cX12_init 190 = .ok (.bipush 10, 2) := by decide +kernel
theorem dX12_init_192 : decode cX12_init 192 = .ok (.newarray .int, 2) := by decide +kernel
theorem dX12_init_194 : decode cX12_init 194 = .ok (.putfield 79, 3) := by decide +kernel
theorem dX12_init_197 : decode cX12_init 197 = .ok (.aload_n 0, 1) := by decide +kernel
theorem dX12_init_198 : decode cX12_init 198 = .ok (.bipush 10, 2) := by decide +kernel
theorem dX12_init_200 : decode cX12_init 200 = .ok (.newarray .int, 2) := by decide +kernel
theorem dX12_init_202 : decode cX12_init 202 = .ok (.putfield 82, 3) := by decide +kernel
theorem dX12_init_205 : decode cX12_init 205 = .ok (.aload_n 0, 1) := by decide +kernel
theorem dX12_init_206 : decode cX12_init 206 = .ok (.sipush 2560, 3) := by decide +kernel
theorem dX12_init_209 : decode cX12_init 209 = .ok (.newarray .long, 2) := by decide +kernel
theorem dX12_init_211 : decode cX12_init 211 = .ok (.putfield 85, 3) := by decide +kernel
theorem dX12_init_214 : decode cX12_init 214 = .ok (.aload_n 0, 1) := by decide +kernel
theorem dX12_init_215 : decode cX12_init 215 = .ok (.sipush 256, 3) := by decide +kernel
theorem dX12_init_218 : decode cX12_init 218 = .ok (.newarray .int, 2) := by decide +kernel
theorem dX12_init_220 : decode cX12_init 220 = .ok (.putfield 89, 3) := by decide +kernel
theorem dX12_init_223 : decode cX12_init 223 = .ok (.aload_n 0, 1) := by decide +kernel
theorem dX12_init_224 : decode cX12_init 224 = .ok (.sipush 256, 3) := by decide +kernel
theorem dX12_init_227 : decode cX12_init 227 = .ok (.newarray .int, 2) := by decide +kernel
theorem dX12_init_229 : decode cX12_init 229 = .ok (.putfield 92, 3) := by decide +kernel
theorem dX12_init_232 : decode cX12_init 232 = .ok (.aload_n 0, 1) := by decide +kernel
theorem dX12_init_233 : decode cX12_init 233 = .ok (.sipush 256, 3) := by decide +kernel
theorem dX12_init_236 : decode cX12_init 236 = .ok (.newarray .boolean, 2) := by decide +kernel
theorem dX12_init_238 : decode cX12_init 238 = .ok (.putfield 95, 3) := by decide +kernel
theorem dX12_init_241 : decode cX12_init 241 = .ok (.aload_n 0, 1) := by decide +kernel
theorem dX12_init_242 : decode cX12_init 242 = .ok (.bipush 30, 2) := by decide +kernel
theorem dX12_init_244 : decode cX12_init 244 = .ok (.newarray .int, 2) := by decide +kernel
theorem dX12_init_246 : decode cX12_init 246 = .ok (.putfield 99, 3) := by decide +kernel
theorem dX12_init_249 : decode cX12_init 249 = .ok (.aload_n 0, 1) := by decide +kernel
theorem dX12_init_250 : decode cX12_init 250 = .ok (.bipush 30, 2) := by decide +kernel
theorem dX12_init_252 : decode cX12_init 252 = .ok (.newarray .int, 2) := by decide +kernel
theorem dX12_init_254 : decode cX12_init 254 = .ok (.putfield 102, 3) := by decide +kernel
theorem dX12_init_257 : decode cX12_init 257 = .ok (.aload_n 0, 1) := by decide +kernel
theorem dX12_init_258 : decode cX12_init 258 = .ok (.bipush 10, 2) := by decide +kernel
theorem dX12_init_260 : decode cX12_init 260 = .ok (.newarray .boolean, 2) := by decide +kernel
theorem dX12_init_262 : decode cX12_init 262 = .ok (.putfield 105, 3) := by decide +kernel
theorem dX12_init_265 : decode cX12_init 265 = .ok (.aload_n 0, 1) := by decide +kernel
theorem dX12_init_266 : decode cX12_init 266 = .ok (.sipush 256, 3) := by decide +kernel
theorem dX12_init_269 : decode cX12_init 269 = .ok (.newarray .boolean, 2) := by decide +kernel
theorem dX12_init_271 : decode cX12_init 271 = .ok (.putfield 108, 3) := by decide +kernel
theorem dX12_init_274 : decode cX12_init 274 = .ok (.aload_n 0, 1) := by decide +kernel
theorem dX12_init_275 : decode cX12_init 275 = .ok (.bipush 64, 2) := by decide +kernel
theorem dX12_init_277 : decode cX12_init 277 = .ok (.newarray .long, 2) := by decide +kernel
theorem dX12_init_279 : decode cX12_init 279 = .ok (.putfield 111, 3) := by decide +kernel
theorem dX12_init_282 : decode cX12_init 282 = .ok (.aload_n 0, 1) := by decide +kernel
theorem dX12_init_283 : decode cX12_init 283 = .ok (.bipush 64, 2) := by decide +kernel
theorem dX12_init_285 : decode cX12_init 285 = .ok (.newarray .long, 2) := by decide +kernel
theorem dX12_init_287 : decode cX12_init 287 = .ok (.putfield 114, 3) := by decide +kernel
theorem dX12_init_290 : decode cX12_init 290 = .ok (.aload_n 0, 1) := by decide +kernel
theorem dX12_init_291 : decode cX12_init 291 = .ok (.bipush 50, 2) := by decide +kernel
theorem dX12_init_293 : decode cX12_init 293 = .ok (.newarray .int, 2) := by decide +kernel
theorem dX12_init_295 : decode cX12_init 295 = .ok (.putfield 117, 3) := by decide +kernel
theorem dX12_init_298 : decode cX12_init 298 = .ok (.aload_n 0, 1) := by decide +kernel
theorem dX12_init_299 : decode cX12_init 299 = .ok (.iconst 4, 1) := by decide +kernel
theorem dX12_init_300 : decode cX12_init 300 = .ok (.newarray .int, 2) := by decide +kernel
theorem dX12_init_302 : decode cX12_init 302 = .ok (.putfield 120, 3) := by decide +kernel
theorem dX12_init_305 : decode cX12_init 305 = .ok (.aload_n 0, 1) := by decide +kernel
theorem dX12_init_306 : decode cX12_init 306 = .ok (.iconst 4, 1) := by decide +kernel
theorem dX12_init_307 : decode cX12_init 307 = .ok (.newarray .int, 2) := by decide +kernel
theorem dX12_init_309 : decode cX12_init 309 = .ok (.putfield 123, 3) := by decide +kernel
theorem dX12_init_312 : decode cX12_init 312 = .ok (.aload_n 0, 1) := by decide +kernel
theorem dX12_init_313 : decode cX12_init 313 = .ok (.sipush 160, 3) := by decide +kernel
theorem dX12_init_316 : decode cX12_init 316 = .ok (.newarray .int, 2) := by decide +kernel
theorem dX12_init_318 : decode cX12_init 318 = .ok (.putfield 126, 3) := by decide +kernel
theorem dX12_init_321 : decode cX12_init 321 = .ok (.return_, 1) := by decide +kernel
theorem dX12_isIn_0 : decode cX12_isIn 0 = .ok (.lload_n 0, 1) := by decide +kernel
theorem dX12_isIn_1 : decode cX12_isIn 1 = .ok (.lload_n 2, 1) := by decide +kernel
theorem dX12_isIn_2 : decode cX12_isIn 2 = .ok (.lcmp, 1) := by decide +kernel
theorem dX12_isIn_3 : decode cX12_isIn 3 = .ok (.ifCond .lt 14, 3) := by decide +kernel
theorem dX12_isIn_6 : decode cX12_isIn 6 = .ok (.lload_n 0, 1) := by decide +kernel
theorem dX12_isIn_7 : decode cX12_isIn 7 = .ok (.lload 4, 2) := by decide +kernel
theorem dX12_isIn_9 : decode cX12_isIn 9 = .ok (.lcmp, 1) := by decide +kernel
theorem dX12_isIn_10 : decode cX12_isIn 10 = .ok (.ifCond .gt 7, 3) := by decide +kernel
theorem dX12_isIn_13 : decode cX12_isIn 13 = .ok (.iconst 1, 1) := by decide +kernel
theorem dX12_isIn_14 : decode cX12_isIn 14 = .ok (.goto 4, 3) := by decide +kernel
theorem dX12_isIn_17 : decode cX12_isIn 17 = .ok (.iconst 0, 1) := by decide +kernel
theorem dX12_isIn_18 : decode cX12_isIn 18 = .ok (.ireturn, 1) := by decide +kernel
theorem dX12_refused_0 : decode cX12_refused 0 = .ok (.aload_n 0, 1) := by decide +kernel
theorem dX12_refused_1 : decode cX12_refused 1 = .ok (.iload_n 1, 1) := by decide +kernel
theorem dX12_refused_2 : decode cX12_refused 2 = .ok (.putfield 129, 3) := by decide +kernel
theorem dX12_refused_5 : decode cX12_refused 5 = .ok (.iconst (-1), 1) := by decide +kernel
theorem dX12_refused_6 : decode cX12_refused 6 = .ok (.ireturn, 1) := by decide +kernel
theorem dX12_done_0 : decode cX12_done 0 = .ok (.aload_n 0, 1) := by decide +kernel
theorem dX12_done_1 : decode cX12_done 1 = .ok (.iconst 0, 1) := by decide +kernel
theorem dX12_done_2 : decode cX12_done 2 = .ok (.putfield 129, 3) := by decide +kernel
theorem dX12_done_5 : decode cX12_done 5 = .ok (.iload_n 1, 1) := by decide +kernel
theorem dX12_done_6 : decode cX12_done 6 = .ok (.ireturn, 1) := by decide +kernel
theorem dX12_isValue_0 : decode cX12_isValue 0 = .ok (.iload_n 1, 1) := by decide +kernel
theorem dX12_isValue_1 : decode cX12_isValue 1 = .ok (.ifCond .lt 17, 3) := by decide +kernel
theorem dX12_isValue_4 : decode cX12_isValue 4 = .ok (.iload_n 1, 1) := by decide +kernel
theorem dX12_isValue_5 : decode cX12_isValue 5 = .ok (.aload_n 0, 1) := by decide +kernel
theorem dX12_isValue_6 : decode cX12_isValue 6 = .ok (.getfield 70, 3) := by decide +kernel
theorem dX12_isValue_9 : decode cX12_isValue 9 = .ok (.iconst 0, 1) := by decide +kernel
theorem dX12_isValue_10 : decode cX12_isValue 10 = .ok (.iaload, 1) := by decide +kernel
theorem dX12_isValue_11 : decode cX12_isValue 11 = .ok (.if_icmp .ge 7, 3) := by decide +kernel
theorem dX12_isValue_14 : decode cX12_isValue 14 = .ok (.iconst 1, 1) := by decide +kernel
theorem dX12_isValue_15 : decode cX12_isValue 15 = .ok (.goto 4, 3) := by decide +kernel
theorem dX12_isValue_18 : decode cX12_isValue 18 = .ok (.iconst 0, 1) := by decide +kernel
theorem dX12_isValue_19 : decode cX12_isValue 19 = .ok (.ireturn, 1) := by decide +kernel
theorem dX12_isRule_0 : decode cX12_isRule 0 = .ok (.iload_n 1, 1) := by decide +kernel
theorem dX12_isRule_1 : decode cX12_isRule 1 = .ok (.ifCond .lt 17, 3) := by decide +kernel
theorem dX12_isRule_4 : decode cX12_isRule 4 = .ok (.iload_n 1, 1) := by decide +kernel
theorem dX12_isRule_5 : decode cX12_isRule 5 = .ok (.aload_n 0, 1) := by decide +kernel
theorem dX12_isRule_6 : decode cX12_isRule 6 = .ok (.getfield 70, 3) := by decide +kernel
theorem dX12_isRule_9 : decode cX12_isRule 9 = .ok (.iconst 1, 1) := by decide +kernel
theorem dX12_isRule_10 : decode cX12_isRule 10 = .ok (.iaload, 1) := by decide +kernel
theorem dX12_isRule_11 : decode cX12_isRule 11 = .ok (.if_icmp .ge 7, 3) := by decide +kernel
theorem dX12_isRule_14 : decode cX12_isRule 14 = .ok (.iconst 1, 1) := by decide +kernel
theorem dX12_isRule_15 : decode cX12_isRule 15 = .ok (.goto 4, 3) := by decide +kernel
theorem dX12_isRule_18 : decode cX12_isRule 18 = .ok (.iconst 0, 1) := by decide +kernel
theorem dX12_isRule_19 : decode cX12_isRule 19 = .ok (.ireturn, 1) := by decide +kernel
theorem dX12_isChoice_0 : decode cX12_isChoice 0 = .ok (.iload_n 0, 1) := by decide +kernel
theorem dX12_isChoice_1 : decode cX12_isChoice 1 = .ok (.ifCond .lt 13, 3) := by decide +kernel
theorem dX12_isChoice_4 : decode cX12_isChoice 4 = .ok (.iload_n 0, 1) := by decide +kernel
theorem dX12_isChoice_5 : decode cX12_isChoice 5 = .ok (.bipush 8, 2) := by decide +kernel
theorem dX12_isChoice_7 : decode cX12_isChoice 7 = .ok (.if_icmp .ge 7, 3) := by decide +kernel
theorem dX12_isChoice_10 : decode cX12_isChoice 10 = .ok (.iconst 1, 1) := by decide +kernel
theorem dX12_isChoice_11 : decode cX12_isChoice 11 = .ok (.goto 4, 3) := by decide +kernel
theorem dX12_isChoice_14 : decode cX12_isChoice 14 = .ok (.iconst 0, 1) := by decide +kernel
theorem dX12_isChoice_15 : decode cX12_isChoice 15 = .ok (.ireturn, 1) := by decide +kernel
theorem dX12_value_0 : decode cX12_value 0 = .ok (.iload_n 1, 1) := by decide +kernel
theorem dX12_value_1 : decode cX12_value 1 = .ok (.iconst 3, 1) := by decide +kernel
theorem dX12_value_2 : decode cX12_value 2 = .ok (.if_icmp .ne 7, 3) := by decide +kernel
theorem dX12_value_5 : decode cX12_value 5 = .ok (.iconst 1, 1) := by decide +kernel
theorem dX12_value_6 : decode cX12_value 6 = .ok (.goto 4, 3) := by decide +kernel
theorem dX12_value_9 : decode cX12_value 9 = .ok (.iconst 0, 1) := by decide +kernel
theorem dX12_value_10 : decode cX12_value 10 = .ok (.istore 4, 2) := by decide +kernel
theorem dX12_value_12 : decode cX12_value 12 = .ok (.iload_n 1, 1) := by decide +kernel
theorem dX12_value_13 : decode cX12_value 13 = .ok (.i2l, 1) := by decide +kernel
theorem dX12_value_14 : decode cX12_value 14 = .ok (.lconst 0, 1) := by decide +kernel
theorem dX12_value_15 : decode cX12_value 15 = .ok (.ldc2_w 133, 3) := by decide +kernel
theorem dX12_value_18 : decode cX12_value 18 = .ok (.invokestatic 135, 3) := by decide +kernel
theorem dX12_value_21 : decode cX12_value 21 = .ok (.ifCond .eq 58, 3) := by decide +kernel
theorem dX12_value_24 : decode cX12_value 24 = .ok (.iload_n 2, 1) := by decide +kernel
theorem dX12_value_25 : decode cX12_value 25 = .ok (.i2l, 1) := by decide +kernel
theorem dX12_value_26 : decode cX12_value 26 = .ok (.ldc2_w 139, 3) := by decide +kernel
theorem dX12_value_29 : decode cX12_value 29 = .ok (.ldc2_w 141, 3) := by decide +kernel
theorem dX12_value_32 : decode cX12_value 32 = .ok (.invokestatic 135, 3) := by decide +kernel
theorem dX12_value_35 : decode cX12_value 35 = .ok (.ifCond .eq 44, 3) := by decide +kernel
theorem dX12_value_38 : decode cX12_value 38 = .ok (.iload 4, 2) := by decide +kernel
theorem dX12_value_40 : decode cX12_value 40 = .ok (.ifCond .eq 45, 3) := by decide +kernel
theorem dX12_value_43 : decode cX12_value 43 = .ok (.iload_n 3, 1) := by decide +kernel
theorem dX12_value_44 : decode cX12_value 44 = .ok (.ifCond .lt 35, 3) := by decide +kernel
theorem dX12_value_47 : decode cX12_value 47 = .ok (.iload_n 3, 1) := by decide +kernel
theorem dX12_value_48 : decode cX12_value 48 = .ok (.bipush 8, 2) := by decide +kernel
theorem dX12_value_50 : decode cX12_value 50 = .ok (.irem, 1) := by decide +kernel
theorem dX12_value_51 : decode cX12_value 51 = .ok (.i2l, 1) := by decide +kernel
theorem dX12_value_52 : decode cX12_value 52 = .ok (.lconst 1, 1) := by decide +kernel
theorem dX12_value_53 : decode cX12_value 53 = .ok (.ldc2_w 143, 3) := by decide +kernel
theorem dX12_value_56 : decode cX12_value 56 = .ok (.invokestatic 135, 3) := by decide +kernel
theorem dX12_value_59 : decode cX12_value 59 = .ok (.ifCond .eq 20, 3) := by decide +kernel
theorem dX12_value_62 : decode cX12_value 62 = .ok (.iload_n 3, 1) := by decide +kernel
theorem dX12_value_63 : decode cX12_value 63 = .ok (.bipush 8, 2) := by decide +kernel
theorem dX12_value_65 : decode cX12_value 65 = .ok (.idiv, 1) := by decide +kernel
theorem dX12_value_66 : decode cX12_value 66 = .ok (.i2l, 1) := by decide +kernel
theorem dX12_value_67 : decode cX12_value 67 = .ok (.ldc2_w 145, 3) := by decide +kernel
theorem dX12_value_70 : decode cX12_value 70 = .ok (.ldc2_w 147, 3) := by decide +kernel
theorem dX12_value_73 : decode cX12_value 73 = .ok (.invokestatic 135, 3) := by decide +kernel
theorem dX12_value_76 : decode cX12_value 76 = .ok (.ifCond .ne 9, 3) := by decide +kernel
theorem dX12_value_79 : decode cX12_value 79 = .ok (.aload_n 0, 1) := by decide +kernel
theorem dX12_value_80 : decode cX12_value 80 = .ok (.iconst 1, 1) := by decide +kernel
theorem dX12_value_81 : decode cX12_value 81 = .ok (.invokevirtual 149, 3) := by decide +kernel
theorem dX12_value_84 : decode cX12_value 84 = .ok (.ireturn, 1) := by decide +kernel
theorem dX12_value_85 : decode cX12_value 85 = .ok (.aload_n 0, 1) := by decide +kernel
theorem dX12_value_86 : decode cX12_value 86 = .ok (.getfield 70, 3) := by decide +kernel
theorem dX12_value_89 : decode cX12_value 89 = .ok (.iconst 0, 1) := by decide +kernel
theorem dX12_value_90 : decode cX12_value 90 = .ok (.iaload, 1) := by decide +kernel
theorem dX12_value_91 : decode cX12_value 91 = .ok (.bipush 10, 2) := by decide +kernel
theorem dX12_value_93 : decode cX12_value 93 = .ok (.if_icmp .ne 9, 3) := by decide +kernel
theorem dX12_value_96 : decode cX12_value 96 = .ok (.aload_n 0, 1) := by decide +kernel
theorem dX12_value_97 : decode cX12_value 97 = .ok (.iconst 2, 1) := by decide +kernel
theorem dX12_value_98 : decode cX12_value 98 = .ok (.invokevirtual 149, 3) := by decide +kernel
theorem dX12_value_101 : decode cX12_value 101 = .ok (.ireturn, 1) := by decide +kernel
theorem dX12_value_102 : decode cX12_value 102 = .ok (.aload_n 0, 1) := by decide +kernel
theorem dX12_value_103 : decode cX12_value 103 = .ok (.getfield 70, 3) := by decide +kernel
theorem dX12_value_106 : decode cX12_value 106 = .ok (.iconst 0, 1) := by decide +kernel
theorem dX12_value_107 : decode cX12_value 107 = .ok (.iaload, 1) := by decide +kernel
theorem dX12_value_108 : decode cX12_value 108 = .ok (.istore 5, 2) := by decide +kernel
theorem dX12_value_110 : decode cX12_value 110 = .ok (.aload_n 0, 1) := by decide +kernel
theorem dX12_value_111 : decode cX12_value 111 = .ok (.getfield 70, 3) := by decide +kernel
theorem dX12_value_114 : decode cX12_value 114 = .ok (.iconst 0, 1) := by decide +kernel
theorem dX12_value_115 : decode cX12_value 115 = .ok (.dup2, 1) := by decide +kernel
theorem dX12_value_116 : decode cX12_value 116 = .ok (.iaload, 1) := by decide +kernel
theorem dX12_value_117 : decode cX12_value 117 = .ok (.iconst 1, 1) := by decide +kernel
theorem dX12_value_118 : decode cX12_value 118 = .ok (.iadd, 1) := by decide +kernel
theorem dX12_value_119 : decode cX12_value 119 = .ok (.iastore, 1) := by decide +kernel
theorem dX12_value_120 : decode cX12_value 120 = .ok (.aload_n 0, 1) := by decide +kernel
theorem dX12_value_121 : decode cX12_value 121 = .ok (.getfield 7, 3) := by decide +kernel
theorem dX12_value_124 : decode cX12_value 124 = .ok (.iload 5, 2) := by decide +kernel
theorem dX12_value_126 : decode cX12_value 126 = .ok (.iload_n 1, 1) := by decide +kernel
theorem dX12_value_127 : decode cX12_value 127 = .ok (.iastore, 1) := by decide +kernel
theorem dX12_value_128 : decode cX12_value 128 = .ok (.aload_n 0, 1) := by decide +kernel
theorem dX12_value_129 : decode cX12_value 129 = .ok (.getfield 13, 3) := by decide +kernel
theorem dX12_value_132 : decode cX12_value 132 = .ok (.iload 5, 2) := by decide +kernel
theorem dX12_value_134 : decode cX12_value 134 = .ok (.iload_n 2, 1) := by decide +kernel
theorem dX12_value_135 : decode cX12_value 135 = .ok (.iastore, 1) := by decide +kernel
theorem dX12_value_136 : decode cX12_value 136 = .ok (.aload_n 0, 1) := by decide +kernel
theorem dX12_value_137 : decode cX12_value 137 = .ok (.getfield 16, 3) := by decide +kernel
theorem dX12_value_140 : decode cX12_value 140 = .ok (.iload 5, 2) := by decide +kernel
theorem dX12_value_142 : decode cX12_value 142 = .ok (.iload 4, 2) := by decide +kernel
theorem dX12_value_144 : decode cX12_value 144 = .ok (.ifCond .eq 10, 3) := by decide +kernel
theorem dX12_value_147 : decode cX12_value 147 = .ok (.iload_n 3, 1) := by decide +kernel
theorem dX12_value_148 : decode cX12_value 148 = .ok (.bipush 8, 2) := by decide +kernel
theorem dX12_value_150 : decode cX12_value 150 = .ok (.irem, 1) := by decide +kernel
theorem dX12_value_151 : decode cX12_value 151 = .ok (.goto 4, 3) := by decide +kernel
theorem dX12_value_154 : decode cX12_value 154 = .ok (.iconst 0, 1) := by decide +kernel
theorem dX12_value_155 : decode cX12_value 155 = .ok (.iastore, 1) := by decide +kernel
theorem dX12_value_156 : decode cX12_value 156 = .ok (.aload_n 0, 1) := by decide +kernel
theorem dX12_value_157 : decode cX12_value 157 = .ok (.getfield 19, 3) := by decide +kernel
theorem dX12_value_160 : decode cX12_value 160 = .ok (.iload 5, 2) := by decide +kernel
theorem dX12_value_162 : decode cX12_value 162 = .ok (.iload 4, 2) := by decide +kernel
theorem dX12_value_164 : decode cX12_value 164 = .ok (.ifCond .eq 10, 3) := by decide +kernel
theorem dX12_value_167 : decode cX12_value 167 = .ok (.iload_n 3, 1) := by decide +kernel
theorem dX12_value_168 : decode cX12_value 168 = .ok (.bipush 8, 2) := by decide +kernel
theorem dX12_value_170 : decode cX12_value 170 = .ok (.idiv, 1) := by decide +kernel
theorem dX12_value_171 : decode cX12_value 171 = .ok (.goto 4, 3) := by decide +kernel
theorem dX12_value_174 : decode cX12_value 174 = .ok (.iconst 0, 1) := by decide +kernel
theorem dX12_value_175 : decode cX12_value 175 = .ok (.iastore, 1) := by decide +kernel
theorem dX12_value_176 : decode cX12_value 176 = .ok (.aload_n 0, 1) := by decide +kernel
theorem dX12_value_177 : decode cX12_value 177 = .ok (.getfield 22, 3) := by decide +kernel
theorem dX12_value_180 : decode cX12_value 180 = .ok (.iload 5, 2) := by decide +kernel
theorem dX12_value_182 : decode cX12_value 182 = .ok (.iconst 0, 1) := by decide +kernel
theorem dX12_value_183 : decode cX12_value 183 = .ok (.iastore, 1) := by decide +kernel
theorem dX12_value_184 : decode cX12_value 184 = .ok (.aload_n 0, 1) := by decide +kernel
theorem dX12_value_185 : decode cX12_value 185 = .ok (.iconst 0, 1) := by decide +kernel
theorem dX12_value_186 : decode cX12_value 186 = .ok (.putfield 153, 3) := by decide +kernel
theorem dX12_value_189 : decode cX12_value 189 = .ok (.aload_n 0, 1) := by decide +kernel
theorem dX12_value_190 : decode cX12_value 190 = .ok (.iload 5, 2) := by decide +kernel
theorem dX12_value_192 : decode cX12_value 192 = .ok (.invokevirtual 157, 3) := by decide +kernel
theorem dX12_value_195 : decode cX12_value 195 = .ok (.ireturn, 1) := by decide +kernel
theorem dX12_free_0 : decode cX12_free 0 = .ok (.iload_n 1, 1) := by decide +kernel
theorem dX12_free_1 : decode cX12_free 1 = .ok (.invokestatic 160, 3) := by decide +kernel
theorem dX12_free_4 : decode cX12_free 4 = .ok (.ifCond .ne 9, 3) := by decide +kernel
theorem dX12_free_7 : decode cX12_free 7 = .ok (.aload_n 0, 1) := by decide +kernel
theorem dX12_free_8 : decode cX12_free 8 = .ok (.iconst 1, 1) := by decide +kernel
theorem dX12_free_9 : decode cX12_free 9 = .ok (.invokevirtual 149, 3) := by decide +kernel
theorem dX12_free_12 : decode cX12_free 12 = .ok (.ireturn, 1) := by decide +kernel
theorem dX12_free_13 : decode cX12_free 13 = .ok (.aload_n 0, 1) := by decide +kernel
theorem dX12_free_14 : decode cX12_free 14 = .ok (.getfield 70, 3) := by decide +kernel
theorem dX12_free_17 : decode cX12_free 17 = .ok (.iconst 4, 1) := by decide +kernel
theorem dX12_free_18 : decode cX12_free 18 = .ok (.iaload, 1) := by decide +kernel
theorem dX12_free_19 : decode cX12_free 19 = .ok (.istore_n 3, 1) := by decide +kernel
theorem dX12_free_20 : decode cX12_free 20 = .ok (.aload_n 0, 1) := by decide +kernel
theorem dX12_free_21 : decode cX12_free 21 = .ok (.getfield 70, 3) := by decide +kernel
theorem dX12_free_24 : decode cX12_free 24 = .ok (.iconst 4, 1) := by decide +kernel
theorem dX12_free_25 : decode cX12_free 25 = .ok (.iload_n 2, 1) := by decide +kernel
theorem dX12_free_26 : decode cX12_free 26 = .ok (.ifCond .eq 11, 3) := by decide +kernel
theorem dX12_free_29 : decode cX12_free 29 = .ok (.iload_n 3, 1) := by decide +kernel
theorem dX12_free_30 : decode cX12_free 30 = .ok (.iconst 1, 1) := by decide +kernel
theorem dX12_free_31 : decode cX12_free 31 = .ok (.iload_n 1, 1) := by decide +kernel
theorem dX12_free_32 : decode cX12_free 32 = .ok (.ishl, 1) := by decide +kernel
theorem dX12_free_33 : decode cX12_free 33 = .ok (.ior, 1) := by decide +kernel
theorem dX12_free_34 : decode cX12_free 34 = .ok (.goto 10, 3) := by decide +kernel
theorem dX12_free_37 : decode cX12_free 37 = .ok (.iload_n 3, 1) := by decide +kernel
theorem dX12_free_38 : decode cX12_free 38 = .ok (.iconst 1, 1) := by decide +kernel
theorem dX12_free_39 : decode cX12_free 39 = .ok (.iload_n 1, 1) := by decide +kernel
theorem dX12_free_40 : decode cX12_free 40 = .ok (.ishl, 1) := by decide +kernel
theorem dX12_free_41 : decode cX12_free 41 = .ok (.iconst (-1), 1) := by decide +kernel
theorem dX12_free_42 : decode cX12_free 42 = .ok (.ixor, 1) := by decide +kernel
theorem dX12_free_43 : decode cX12_free 43 = .ok (.iand, 1) := by decide +kernel
theorem dX12_free_44 : decode cX12_free 44 = .ok (.iastore, 1) := by decide +kernel
theorem dX12_free_45 : decode cX12_free 45 = .ok (.aload_n 0, 1) := by decide +kernel
theorem dX12_free_46 : decode cX12_free 46 = .ok (.iconst 0, 1) := by decide +kernel
theorem dX12_free_47 : decode cX12_free 47 = .ok (.putfield 153, 3) := by decide +kernel
theorem dX12_free_50 : decode cX12_free 50 = .ok (.aload_n 0, 1) := by decide +kernel
theorem dX12_free_51 : decode cX12_free 51 = .ok (.iload_n 3, 1) := by decide +kernel
theorem dX12_free_52 : decode cX12_free 52 = .ok (.aload_n 0, 1) := by decide +kernel
theorem dX12_free_53 : decode cX12_free 53 = .ok (.getfield 70, 3) := by decide +kernel
theorem dX12_free_56 : decode cX12_free 56 = .ok (.iconst 4, 1) := by decide +kernel
theorem dX12_free_57 : decode cX12_free 57 = .ok (.iaload, 1) := by decide +kernel
theorem dX12_free_58 : decode cX12_free 58 = .ok (.if_icmp .ne 7, 3) := by decide +kernel
theorem dX12_free_61 : decode cX12_free 61 = .ok (.iconst 0, 1) := by decide +kernel
theorem dX12_free_62 : decode cX12_free 62 = .ok (.goto 4, 3) := by decide +kernel
theorem dX12_free_65 : decode cX12_free 65 = .ok (.iconst 1, 1) := by decide +kernel
theorem dX12_free_66 : decode cX12_free 66 = .ok (.invokevirtual 157, 3) := by decide +kernel
theorem dX12_free_69 : decode cX12_free 69 = .ok (.ireturn, 1) := by decide +kernel
theorem dX12_test_0 : decode cX12_test 0 = .ok (.iload_n 1, 1) := by decide +kernel
theorem dX12_test_1 : decode cX12_test 1 = .ok (.i2l, 1) := by decide +kernel
theorem dX12_test_2 : decode cX12_test 2 = .ok (.lconst 0, 1) := by decide +kernel
theorem dX12_test_3 : decode cX12_test 3 = .ok (.ldc2_w 145, 3) := by decide +kernel
theorem dX12_test_6 : decode cX12_test 6 = .ok (.invokestatic 135, 3) := by decide +kernel
theorem dX12_test_9 : decode cX12_test 9 = .ok (.ifCond .eq 14, 3) := by decide +kernel
theorem dX12_test_12 : decode cX12_test 12 = .ok (.iload_n 1, 1) := by decide +kernel
theorem dX12_test_13 : decode cX12_test 13 = .ok (.ifCond .le 16, 3) := by decide +kernel
theorem dX12_test_16 : decode cX12_test 16 = .ok (.iload_n 2, 1) := by decide +kernel
theorem dX12_test_17 : decode cX12_test 17 = .ok (.invokestatic 160, 3) := by decide +kernel
theorem dX12_test_20 : decode cX12_test 20 = .ok (.ifCond .ne 9, 3) := by decide +kernel
theorem dX12_test_23 : decode cX12_test 23 = .ok (.aload_n 0, 1) := by decide +kernel
theorem dX12_test_24 : decode cX12_test 24 = .ok (.iconst 1, 1) := by decide +kernel
theorem dX12_test_25 : decode cX12_test 25 = .ok (.invokevirtual 149, 3) := by decide +kernel
theorem dX12_test_28 : decode cX12_test 28 = .ok (.ireturn, 1) := by decide +kernel
theorem dX12_test_29 : decode cX12_test 29 = .ok (.aload_n 0, 1) := by decide +kernel
theorem dX12_test_30 : decode cX12_test 30 = .ok (.iload_n 1, 1) := by decide +kernel
theorem dX12_test_31 : decode cX12_test 31 = .ok (.putfield 164, 3) := by decide +kernel
theorem dX12_test_34 : decode cX12_test 34 = .ok (.aload_n 0, 1) := by decide +kernel
theorem dX12_test_35 : decode cX12_test 35 = .ok (.iload_n 2, 1) := by decide +kernel
theorem dX12_test_36 : decode cX12_test 36 = .ok (.putfield 167, 3) := by decide +kernel
theorem dX12_test_39 : decode cX12_test 39 = .ok (.aload_n 0, 1) := by decide +kernel
theorem dX12_test_40 : decode cX12_test 40 = .ok (.iconst 1, 1) := by decide +kernel
theorem dX12_test_41 : decode cX12_test 41 = .ok (.invokevirtual 157, 3) := by decide +kernel
theorem dX12_test_44 : decode cX12_test 44 = .ok (.ireturn, 1) := by decide +kernel
theorem dX12_testValue_0 : decode cX12_testValue 0 = .ok (.aload_n 0, 1) := by decide +kernel
theorem dX12_testValue_1 : decode cX12_testValue 1 = .ok (.iload_n 1, 1) := by decide +kernel
theorem dX12_testValue_2 : decode cX12_testValue 2 = .ok (.invokevirtual 170, 3) := by decide +kernel
theorem dX12_testValue_5 : decode cX12_testValue 5 = .ok (.ifCond .eq 17, 3) := by decide +kernel
theorem dX12_testValue_8 : decode cX12_testValue 8 = .ok (.iload_n 3, 1) := by decide +kernel
theorem dX12_testValue_9 : decode cX12_testValue 9 = .ok (.i2l, 1) := by decide +kernel
theorem dX12_testValue_10 : decode cX12_testValue 10 = .ok (.ldc2_w 173, 3) := by decide +kernel
theorem dX12_testValue_13 : decode cX12_testValue 13 = .ok (.ldc2_w 175, 3) := by decide +kernel
theorem dX12_testValue_16 : decode cX12_testValue 16 = .ok (.invokestatic 135, 3) := by decide +kernel
theorem dX12_testValue_19 : decode cX12_testValue 19 = .ok (.ifCond .ne 9, 3) := by decide +kernel
theorem dX12_testValue_22 : decode cX12_testValue 22 = .ok (.aload_n 0, 1) := by decide +kernel
theorem dX12_testValue_23 : decode cX12_testValue 23 = .ok (.iconst 1, 1) := by decide +kernel
theorem dX12_testValue_24 : decode cX12_testValue 24 = .ok (.invokevirtual 149, 3) := by decide +kernel
theorem dX12_testValue_27 : decode cX12_testValue 27 = .ok (.ireturn, 1) := by decide +kernel
theorem dX12_testValue_28 : decode cX12_testValue 28 = .ok (.aload_n 0, 1) := by decide +kernel
theorem dX12_testValue_29 : decode cX12_testValue 29 = .ok (.iload_n 2, 1) := by decide +kernel
theorem dX12_testValue_30 : decode cX12_testValue 30 = .ok (.ifCond .eq 7, 3) := by decide +kernel
theorem dX12_testValue_33 : decode cX12_testValue 33 = .ok (.iconst 4, 1) := by decide +kernel
theorem dX12_testValue_34 : decode cX12_testValue 34 = .ok (.goto 4, 3) := by decide +kernel
theorem dX12_testValue_37 : decode cX12_testValue 37 = .ok (.iconst 3, 1) := by decide +kernel
theorem dX12_testValue_38 : decode cX12_testValue 38 = .ok (.putfield 164, 3) := by decide +kernel
theorem dX12_testValue_41 : decode cX12_testValue 41 = .ok (.aload_n 0, 1) := by decide +kernel
theorem dX12_testValue_42 : decode cX12_testValue 42 = .ok (.iload_n 1, 1) := by decide +kernel
theorem dX12_testValue_43 : decode cX12_testValue 43 = .ok (.putfield 167, 3) := by decide +kernel
theorem dX12_testValue_46 : decode cX12_testValue 46 = .ok (.aload_n 0, 1) := by decide +kernel
theorem dX12_testValue_47 : decode cX12_testValue 47 = .ok (.iload_n 3, 1) := by decide +kernel
theorem dX12_testValue_48 : decode cX12_testValue 48 = .ok (.putfield 177, 3) := by decide +kernel
theorem dX12_testValue_51 : decode cX12_testValue 51 = .ok (.aload_n 0, 1) := by decide +kernel
theorem dX12_testValue_52 : decode cX12_testValue 52 = .ok (.iconst 1, 1) := by decide +kernel
theorem dX12_testValue_53 : decode cX12_testValue 53 = .ok (.invokevirtual 157, 3) := by decide +kernel
theorem dX12_testValue_56 : decode cX12_testValue 56 = .ok (.ireturn, 1) := by decide +kernel
theorem dX12_rule_0 : decode cX12_rule 0 = .ok (.iload_n 1, 1) := by decide +kernel
theorem dX12_rule_1 : decode cX12_rule 1 = .ok (.i2l, 1) := by decide +kernel
theorem dX12_rule_2 : decode cX12_rule 2 = .ok (.lconst 0, 1) := by decide +kernel
theorem dX12_rule_3 : decode cX12_rule 3 = .ok (.ldc2_w 180, 3) := by decide +kernel
theorem dX12_rule_6 : decode cX12_rule 6 = .ok (.invokestatic 135, 3) := by decide +kernel
theorem dX12_rule_9 : decode cX12_rule 9 = .ok (.ifCond .eq 12, 3) := by decide +kernel
theorem dX12_rule_12 : decode cX12_rule 12 = .ok (.iload_n 1, 1) := by decide +kernel
theorem dX12_rule_13 : decode cX12_rule 13 = .ok (.iconst 1, 1) := by decide +kernel
theorem dX12_rule_14 : decode cX12_rule 14 = .ok (.if_icmp .eq 7, 3) := by decide +kernel
theorem dX12_rule_17 : decode cX12_rule 17 = .ok (.iconst 1, 1) := by decide +kernel
theorem dX12_rule_18 : decode cX12_rule 18 = .ok (.goto 4, 3) := by decide +kernel
theorem dX12_rule_21 : decode cX12_rule 21 = .ok (.iconst 0, 1) := by decide +kernel
theorem dX12_rule_22 : decode cX12_rule 22 = .ok (.istore 6, 2) := by decide +kernel
theorem dX12_rule_24 : decode cX12_rule 24 = .ok (.iload_n 1, 1) := by decide +kernel
theorem dX12_rule_25 : decode cX12_rule 25 = .ok (.bipush 7, 2) := by decide +kernel
theorem dX12_rule_27 : decode cX12_rule 27 = .ok (.if_icmp .ne 7, 3) := by decide +kernel
theorem dX12_rule_30 : decode cX12_rule 30 = .ok (.iconst 3, 1) := by decide +kernel
theorem dX12_rule_31 : decode cX12_rule 31 = .ok (.goto 4, 3) := by decide +kernel
theorem dX12_rule_34 : decode cX12_rule 34 = .ok (.iload_n 1, 1) := by decide +kernel
theorem dX12_rule_35 : decode cX12_rule 35 = .ok (.istore 7, 2) := by decide +kernel
theorem dX12_rule_37 : decode cX12_rule 37 = .ok (.iload 6, 2) := by decide +kernel
theorem dX12_rule_39 : decode cX12_rule 39 = .ok (.ifCond .eq 30, 3) := by decide +kernel
theorem dX12_rule_42 : decode cX12_rule 42 = .ok (.aload_n 0, 1) := by decide +kernel
theorem dX12_rule_43 : decode cX12_rule 43 = .ok (.iload 7, 2) := by decide +kernel
theorem dX12_rule_45 : decode cX12_rule 45 = .ok (.iload_n 2, 1) := by decide +kernel
theorem dX12_rule_46 : decode cX12_rule 46 = .ok (.iload_n 3, 1) := by decide +kernel
theorem dX12_rule_47 : decode cX12_rule 47 = .ok (.iload 4, 2) := by decide +kernel
theorem dX12_rule_49 : decode cX12_rule 49 = .ok (.iload 5, 2) := by decide +kernel
theorem dX12_rule_51 : decode cX12_rule 51 = .ok (.iconst 0, 1) := by decide +kernel
theorem dX12_rule_52 : decode cX12_rule 52 = .ok (.iload_n 1, 1) := by decide +kernel
theorem dX12_rule_53 : decode cX12_rule 53 = .ok (.bipush 7, 2) := by decide +kernel
theorem dX12_rule_55 : decode cX12_rule 55 = .ok (.if_icmp .ne 7, 3) := by decide +kernel
theorem dX12_rule_58 : decode cX12_rule 58 = .ok (.iconst 1, 1) := by decide +kernel
theorem dX12_rule_59 : decode cX12_rule 59 = .ok (.goto 4, 3) := by decide +kernel
theorem dX12_rule_62 : decode cX12_rule 62 = .ok (.iconst 0, 1) := by decide +kernel
theorem dX12_rule_63 : decode cX12_rule 63 = .ok (.invokevirtual 182, 3) := by decide +kernel
theorem dX12_rule_66 : decode cX12_rule 66 = .ok (.goto 8, 3) := by decide +kernel
theorem dX12_rule_69 : decode cX12_rule 69 = .ok (.aload_n 0, 1) := by decide +kernel
theorem dX12_rule_70 : decode cX12_rule 70 = .ok (.iconst 1, 1) := by decide +kernel
theorem dX12_rule_71 : decode cX12_rule 71 = .ok (.invokevirtual 149, 3) := by decide +kernel
theorem dX12_rule_74 : decode cX12_rule 74 = .ok (.ireturn, 1) := by decide +kernel
theorem dX12_typed_0 : decode cX12_typed 0 = .ok (.iload_n 1, 1) := by decide +kernel
theorem dX12_typed_1 : decode cX12_typed 1 = .ok (.i2l, 1) := by decide +kernel
theorem dX12_typed_2 : decode cX12_typed 2 = .ok (.lconst 1, 1) := by decide +kernel
theorem dX12_typed_3 : decode cX12_typed 3 = .ok (.ldc2_w 143, 3) := by decide +kernel
theorem dX12_typed_6 : decode cX12_typed 6 = .ok (.invokestatic 135, 3) := by decide +kernel
theorem dX12_typed_9 : decode cX12_typed 9 = .ok (.ifCond .eq 19, 3) := by decide +kernel
theorem dX12_typed_12 : decode cX12_typed 12 = .ok (.aload_n 0, 1) := by decide +kernel
theorem dX12_typed_13 : decode cX12_typed 13 = .ok (.iconst 1, 1) := by decide +kernel
theorem dX12_typed_14 : decode cX12_typed 14 = .ok (.iload_n 2, 1) := by decide +kernel
theorem dX12_typed_15 : decode cX12_typed 15 = .ok (.iload_n 3, 1) := by decide +kernel
theorem dX12_typed_16 : decode cX12_typed 16 = .ok (.iload 4, 2) := by decide +kernel
theorem dX12_typed_18 : decode cX12_typed 18 = .ok (.iload 5, 2) := by decide +kernel
theorem dX12_typed_20 : decode cX12_typed 20 = .ok (.iload_n 1, 1) := by decide +kernel
theorem dX12_typed_21 : decode cX12_typed 21 = .ok (.iconst 0, 1) := by decide +kernel
theorem dX12_typed_22 : decode cX12_typed 22 = .ok (.invokevirtual 182, 3) := by decide +kernel
theorem dX12_typed_25 : decode cX12_typed 25 = .ok (.goto 8, 3) := by decide +kernel
theorem dX12_typed_28 : decode cX12_typed 28 = .ok (.aload_n 0, 1) := by decide +kernel
theorem dX12_typed_29 : decode cX12_typed 29 = .ok (.iconst 1, 1) := by decide +kernel
theorem dX12_typed_30 : decode cX12_typed 30 = .ok (.invokevirtual 149, 3) := by decide +kernel
theorem dX12_typed_33 : decode cX12_typed 33 = .ok (.ireturn, 1) := by decide +kernel
theorem dX12_adds_0 : decode cX12_adds 0 = .ok (.iload_n 1, 1) := by decide +kernel
theorem dX12_adds_1 : decode cX12_adds 1 = .ok (.iconst 3, 1) := by decide +kernel
theorem dX12_adds_2 : decode cX12_adds 2 = .ok (.if_icmp .gt 7, 3) := by decide +kernel
theorem dX12_adds_5 : decode cX12_adds 5 = .ok (.iconst 1, 1) := by decide +kernel
theorem dX12_adds_6 : decode cX12_adds 6 = .ok (.goto 4, 3) := by decide +kernel
theorem dX12_adds_9 : decode cX12_adds 9 = .ok (.iconst 0, 1) := by decide +kernel
theorem dX12_adds_10 : decode cX12_adds 10 = .ok (.istore 8, 2) := by decide +kernel
theorem dX12_adds_12 : decode cX12_adds 12 = .ok (.iload_n 3, 1) := by decide +kernel
theorem dX12_adds_13 : decode cX12_adds 13 = .ok (.ifCond .lt 37, 3) := by decide +kernel
theorem dX12_adds_16 : decode cX12_adds 16 = .ok (.iload_n 3, 1) := by decide +kernel
theorem dX12_adds_17 : decode cX12_adds 17 = .ok (.bipush 16, 2) := by decide +kernel
theorem dX12_adds_19 : decode cX12_adds 19 = .ok (.irem, 1) := by decide +kernel
theorem dX12_adds_20 : decode cX12_adds 20 = .ok (.i2l, 1) := by decide +kernel
theorem dX12_adds_21 : decode cX12_adds 21 = .ok (.lconst 0, 1) := by decide +kernel
theorem dX12_adds_22 : decode cX12_adds 22 = .ok (.ldc2_w 186, 3) := by decide +kernel
theorem dX12_adds_25 : decode cX12_adds 25 = .ok (.invokestatic 135, 3) := by decide +kernel
theorem dX12_adds_28 : decode cX12_adds 28 = .ok (.ifCond .eq 22, 3) := by decide +kernel
theorem dX12_adds_31 : decode cX12_adds 31 = .ok (.iload_n 3, 1) := by decide +kernel
theorem dX12_adds_32 : decode cX12_adds 32 = .ok (.bipush 16, 2) := by decide +kernel
theorem dX12_adds_34 : decode cX12_adds 34 = .ok (.idiv, 1) := by decide +kernel
theorem dX12_adds_35 : decode cX12_adds 35 = .ok (.i2l, 1) := by decide +kernel
theorem dX12_adds_36 : decode cX12_adds 36 = .ok (.lconst 0, 1) := by decide +kernel
theorem dX12_adds_37 : decode cX12_adds 37 = .ok (.ldc2_w 188, 3) := by decide +kernel
theorem dX12_adds_40 : decode cX12_adds 40 = .ok (.invokestatic 135, 3) := by decide +kernel
theorem dX12_adds_43 : decode cX12_adds 43 = .ok (.ifCond .eq 7, 3) := by decide +kernel
theorem dX12_adds_46 : decode cX12_adds 46 = .ok (.iconst 1, 1) := by decide +kernel
theorem dX12_adds_47 : decode cX12_adds 47 = .ok (.goto 4, 3) := by decide +kernel
theorem dX12_adds_50 : decode cX12_adds 50 = .ok (.iconst 0, 1) := by decide +kernel
theorem dX12_adds_51 : decode cX12_adds 51 = .ok (.istore 9, 2) := by decide +kernel
theorem dX12_adds_53 : decode cX12_adds 53 = .ok (.iload 9, 2) := by decide +kernel
theorem dX12_adds_55 : decode cX12_adds 55 = .ok (.ifCond .eq 46, 3) := by decide +kernel
theorem dX12_adds_58 : decode cX12_adds 58 = .ok (.iload 8, 2) := by decide +kernel
theorem dX12_adds_60 : decode cX12_adds 60 = .ok (.ifCond .eq 14, 3) := by decide +kernel
theorem dX12_adds_63 : decode cX12_adds 63 = .ok (.aload_n 0, 1) := by decide +kernel
theorem dX12_adds_64 : decode cX12_adds 64 = .ok (.iload_n 2, 1) := by decide +kernel
theorem dX12_adds_65 : decode cX12_adds 65 = .ok (.invokevirtual 170, 3) := by decide +kernel
theorem dX12_adds_68 : decode cX12_adds 68 = .ok (.ifCond .eq 33, 3) := by decide +kernel
theorem dX12_adds_71 : decode cX12_adds 71 = .ok (.goto 26, 3) := by decide +kernel
theorem dX12_adds_74 : decode cX12_adds 74 = .ok (.iload_n 1, 1) := by decide +kernel
theorem dX12_adds_75 : decode cX12_adds 75 = .ok (.iconst 4, 1) := by decide +kernel
theorem dX12_adds_76 : decode cX12_adds 76 = .ok (.if_icmp .ne 14, 3) := by decide +kernel
theorem dX12_adds_79 : decode cX12_adds 79 = .ok (.aload_n 0, 1) := by decide +kernel
theorem dX12_adds_80 : decode cX12_adds 80 = .ok (.iload_n 2, 1) := by decide +kernel
theorem dX12_adds_81 : decode cX12_adds 81 = .ok (.invokevirtual 190, 3) := by decide +kernel
theorem dX12_adds_84 : decode cX12_adds 84 = .ok (.ifCond .eq 17, 3) := by decide +kernel
theorem dX12_adds_87 : decode cX12_adds 87 = .ok (.goto 10, 3) := by decide +kernel
theorem dX12_adds_90 : decode cX12_adds 90 = .ok (.iload_n 2, 1) := by decide +kernel
theorem dX12_adds_91 : decode cX12_adds 91 = .ok (.invokestatic 160, 3) := by decide +kernel
theorem dX12_adds_94 : decode cX12_adds 94 = .ok (.ifCond .eq 7, 3) := by decide +kernel
theorem dX12_adds_97 : decode cX12_adds 97 = .ok (.iconst 1, 1) := by decide +kernel
theorem dX12_adds_98 : decode cX12_adds 98 = .ok (.goto 4, 3) := by decide +kernel
theorem dX12_adds_101 : decode cX12_adds 101 = .ok (.iconst 0, 1) := by decide +kernel
theorem dX12_adds_102 : decode cX12_adds 102 = .ok (.istore 9, 2) := by decide +kernel
theorem dX12_adds_104 : decode cX12_adds 104 = .ok (.iload 9, 2) := by decide +kernel
theorem dX12_adds_106 : decode cX12_adds 106 = .ok (.ifCond .eq 66, 3) := by decide +kernel
theorem dX12_adds_109 : decode cX12_adds 109 = .ok (.iload 8, 2) := by decide +kernel
theorem dX12_adds_111 : decode cX12_adds 111 = .ok (.ifCond .eq 57, 3) := by decide +kernel
theorem dX12_adds_114 : decode cX12_adds 114 = .ok (.iload 4, 2) := by decide +kernel
theorem dX12_adds_116 : decode cX12_adds 116 = .ok (.i2l, 1) := by decide +kernel
theorem dX12_adds_117 : decode cX12_adds 117 = .ok (.ldc2_w 173, 3) := by decide +kernel
theorem dX12_adds_120 : decode cX12_adds 120 = .ok (.ldc2_w 175, 3) := by decide +kernel
theorem dX12_adds_123 : decode cX12_adds 123 = .ok (.invokestatic 135, 3) := by decide +kernel
theorem dX12_adds_126 : decode cX12_adds 126 = .ok (.ifCond .eq 46, 3) := by decide +kernel
theorem dX12_adds_129 : decode cX12_adds 129 = .ok (.iload 5, 2) := by decide +kernel
theorem dX12_adds_131 : decode cX12_adds 131 = .ok (.iconst (-1), 1) := by decide +kernel
theorem dX12_adds_132 : decode cX12_adds 132 = .ok (.if_icmp .eq 36, 3) := by decide +kernel
theorem dX12_adds_135 : decode cX12_adds 135 = .ok (.iload 5, 2) := by decide +kernel
theorem dX12_adds_137 : decode cX12_adds 137 = .ok (.ifCond .lt 35, 3) := by decide +kernel
theorem dX12_adds_140 : decode cX12_adds 140 = .ok (.aload_n 0, 1) := by decide +kernel
theorem dX12_adds_141 : decode cX12_adds 141 = .ok (.iload 5, 2) := by decide +kernel
theorem dX12_adds_143 : decode cX12_adds 143 = .ok (.bipush 16, 2) := by decide +kernel
theorem dX12_adds_145 : decode cX12_adds 145 = .ok (.irem, 1) := by decide +kernel
theorem dX12_adds_146 : decode cX12_adds 146 = .ok (.invokevirtual 170, 3) := by decide +kernel
theorem dX12_adds_149 : decode cX12_adds 149 = .ok (.ifCond .eq 23, 3) := by decide +kernel
theorem dX12_adds_152 : decode cX12_adds 152 = .ok (.iload 5, 2) := by decide +kernel
theorem dX12_adds_154 : decode cX12_adds 154 = .ok (.bipush 16, 2) := by decide +kernel
theorem dX12_adds_156 : decode cX12_adds 156 = .ok (.idiv, 1) := by decide +kernel
theorem dX12_adds_157 : decode cX12_adds 157 = .ok (.i2l, 1) := by decide +kernel
theorem dX12_adds_158 : decode cX12_adds 158 = .ok (.lconst 1, 1) := by decide +kernel
theorem dX12_adds_159 : decode cX12_adds 159 = .ok (.ldc2_w 186, 3) := by decide +kernel
theorem dX12_adds_162 : decode cX12_adds 162 = .ok (.invokestatic 135, 3) := by decide +kernel
theorem dX12_adds_165 : decode cX12_adds 165 = .ok (.ifCond .eq 7, 3) := by decide +kernel
theorem dX12_adds_168 : decode cX12_adds 168 = .ok (.iconst 1, 1) := by decide +kernel
theorem dX12_adds_169 : decode cX12_adds 169 = .ok (.goto 4, 3) := by decide +kernel
theorem dX12_adds_172 : decode cX12_adds 172 = .ok (.iconst 0, 1) := by decide +kernel
theorem dX12_adds_173 : decode cX12_adds 173 = .ok (.istore 9, 2) := by decide +kernel
theorem dX12_adds_175 : decode cX12_adds 175 = .ok (.iload 9, 2) := by decide +kernel
theorem dX12_adds_177 : decode cX12_adds 177 = .ok (.ifCond .eq 16, 3) := by decide +kernel
theorem dX12_adds_180 : decode cX12_adds 180 = .ok (.iload_n 1, 1) := by decide +kernel
theorem dX12_adds_181 : decode cX12_adds 181 = .ok (.iconst 4, 1) := by decide +kernel
theorem dX12_adds_182 : decode cX12_adds 182 = .ok (.if_icmp .ne 17, 3) := by decide +kernel
theorem dX12_adds_185 : decode cX12_adds 185 = .ok (.aload_n 0, 1) := by decide +kernel
theorem dX12_adds_186 : decode cX12_adds 186 = .ok (.getfield 164, 3) := by decide +kernel
theorem dX12_adds_189 : decode cX12_adds 189 = .ok (.iconst 2, 1) := by decide +kernel
theorem dX12_adds_190 : decode cX12_adds 190 = .ok (.if_icmp .le 9, 3) := by decide +kernel
theorem dX12_adds_193 : decode cX12_adds 193 = .ok (.aload_n 0, 1) := by decide +kernel
theorem dX12_adds_194 : decode cX12_adds 194 = .ok (.iconst 1, 1) := by decide +kernel
theorem dX12_adds_195 : decode cX12_adds 195 = .ok (.invokevirtual 149, 3) := by decide +kernel
theorem dX12_adds_198 : decode cX12_adds 198 = .ok (.ireturn, 1) := by decide +kernel
theorem dX12_adds_199 : decode cX12_adds 199 = .ok (.aload_n 0, 1) := by decide +kernel
theorem dX12_adds_200 : decode cX12_adds 200 = .ok (.getfield 70, 3) := by decide +kernel
theorem dX12_adds_203 : decode cX12_adds 203 = .ok (.iconst 1, 1) := by decide +kernel
theorem dX12_adds_204 : decode cX12_adds 204 = .ok (.iaload, 1) := by decide +kernel
theorem dX12_adds_205 : decode cX12_adds 205 = .ok (.bipush 30, 2) := by decide +kernel
theorem dX12_adds_207 : decode cX12_adds 207 = .ok (.if_icmp .ne 9, 3) := by decide +kernel
theorem dX12_adds_210 : decode cX12_adds 210 = .ok (.aload_n 0, 1) := by decide +kernel
theorem dX12_adds_211 : decode cX12_adds 211 = .ok (.iconst 2, 1) := by decide +kernel
theorem dX12_adds_212 : decode cX12_adds 212 = .ok (.invokevirtual 149, 3) := by decide +kernel
theorem dX12_adds_215 : decode cX12_adds 215 = .ok (.ireturn, 1) := by decide +kernel
theorem dX12_adds_216 : decode cX12_adds 216 = .ok (.aload_n 0, 1) := by decide +kernel
theorem dX12_adds_217 : decode cX12_adds 217 = .ok (.getfield 164, 3) := by decide +kernel
theorem dX12_adds_220 : decode cX12_adds 220 = .ok (.iconst 2, 1) := by decide +kernel
theorem dX12_adds_221 : decode cX12_adds 221 = .ok (.if_icmp .le 12, 3) := by decide +kernel
theorem dX12_adds_224 : decode cX12_adds 224 = .ok (.iconst 1, 1) := by decide +kernel
theorem dX12_adds_225 : decode cX12_adds 225 = .ok (.aload_n 0, 1) := by decide +kernel
theorem dX12_adds_226 : decode cX12_adds 226 = .ok (.getfield 167, 3) := by decide +kernel
theorem dX12_adds_229 : decode cX12_adds 229 = .ok (.ishl, 1) := by decide +kernel
theorem dX12_adds_230 : decode cX12_adds 230 = .ok (.goto 4, 3) := by decide +kernel
theorem dX12_adds_233 : decode cX12_adds 233 = .ok (.iconst 0, 1) := by decide +kernel
theorem dX12_adds_234 : decode cX12_adds 234 = .ok (.istore 10, 2) := by decide +kernel
theorem dX12_adds_236 : decode cX12_adds 236 = .ok (.iload 8, 2) := by decide +kernel
theorem dX12_adds_238 : decode cX12_adds 238 = .ok (.ifCond .eq 20, 3) := by decide +kernel
theorem dX12_adds_241 : decode cX12_adds 241 = .ok (.iload 5, 2) := by decide +kernel
theorem dX12_adds_243 : decode cX12_adds 243 = .ok (.ifCond .lt 15, 3) := by decide +kernel
theorem dX12_adds_246 : decode cX12_adds 246 = .ok (.iload 10, 2) := by decide +kernel
theorem dX12_adds_248 : decode cX12_adds 248 = .ok (.iconst 1, 1) := by decide +kernel
theorem dX12_adds_249 : decode cX12_adds 249 = .ok (.iload 5, 2) := by decide +kernel
theorem dX12_adds_251 : decode cX12_adds 251 = .ok (.bipush 16, 2) := by decide +kernel
theorem dX12_adds_253 : decode cX12_adds 253 = .ok (.irem, 1) := by decide +kernel
theorem dX12_adds_254 : decode cX12_adds 254 = .ok (.ishl, 1) := by decide +kernel
theorem dX12_adds_255 : decode cX12_adds 255 = .ok (.ior, 1) := by decide +kernel
theorem dX12_adds_256 : decode cX12_adds 256 = .ok (.istore 10, 2) := by decide +kernel
theorem dX12_adds_258 : decode cX12_adds 258 = .ok (.iload 8, 2) := by decide +kernel
theorem dX12_adds_260 : decode cX12_adds 260 = .ok (.ifCond .eq 19, 3) := by decide +kernel
theorem dX12_adds_263 : decode cX12_adds 263 = .ok (.aload_n 0, 1) := by decide +kernel
theorem dX12_adds_264 : decode cX12_adds 264 = .ok (.iload_n 2, 1) := by decide +kernel
theorem dX12_adds_265 : decode cX12_adds 265 = .ok (.iload 10, 2) := by decide +kernel
theorem dX12_adds_267 : decode cX12_adds 267 = .ok (.invokevirtual 193, 3) := by decide +kernel
theorem dX12_adds_270 : decode cX12_adds 270 = .ok (.ifCond .eq 9, 3) := by decide +kernel
theorem dX12_adds_273 : decode cX12_adds 273 = .ok (.aload_n 0, 1) := by decide +kernel
theorem dX12_adds_274 : decode cX12_adds 274 = .ok (.iconst 4, 1) := by decide +kernel
theorem dX12_adds_275 : decode cX12_adds 275 = .ok (.invokevirtual 149, 3) := by decide +kernel
theorem dX12_adds_278 : decode cX12_adds 278 = .ok (.ireturn, 1) := by decide +kernel
theorem dX12_adds_279 : decode cX12_adds 279 = .ok (.aload_n 0, 1) := by decide +kernel
theorem dX12_adds_280 : decode cX12_adds 280 = .ok (.getfield 70, 3) := by decide +kernel
theorem dX12_adds_283 : decode cX12_adds 283 = .ok (.iconst 1, 1) := by decide +kernel
theorem dX12_adds_284 : decode cX12_adds 284 = .ok (.iaload, 1) := by decide +kernel
theorem dX12_adds_285 : decode cX12_adds 285 = .ok (.istore 11, 2) := by decide +kernel
theorem dX12_adds_287 : decode cX12_adds 287 = .ok (.aload_n 0, 1) := by decide +kernel
theorem dX12_adds_288 : decode cX12_adds 288 = .ok (.getfield 70, 3) := by decide +kernel
theorem dX12_adds_291 : decode cX12_adds 291 = .ok (.iconst 1, 1) := by decide +kernel
theorem dX12_adds_292 : decode cX12_adds 292 = .ok (.dup2, 1) := by decide +kernel
theorem dX12_adds_293 : decode cX12_adds 293 = .ok (.iaload, 1) := by decide +kernel
theorem dX12_adds_294 : decode cX12_adds 294 = .ok (.iconst 1, 1) := by decide +kernel
theorem dX12_adds_295 : decode cX12_adds 295 = .ok (.iadd, 1) := by decide +kernel
theorem dX12_adds_296 : decode cX12_adds 296 = .ok (.iastore, 1) := by decide +kernel
theorem dX12_adds_297 : decode cX12_adds 297 = .ok (.aload_n 0, 1) := by decide +kernel
theorem dX12_adds_298 : decode cX12_adds 298 = .ok (.getfield 25, 3) := by decide +kernel
theorem dX12_adds_301 : decode cX12_adds 301 = .ok (.iload 11, 2) := by decide +kernel
theorem dX12_adds_303 : decode cX12_adds 303 = .ok (.iload_n 1, 1) := by decide +kernel
theorem dX12_adds_304 : decode cX12_adds 304 = .ok (.iastore, 1) := by decide +kernel
theorem dX12_adds_305 : decode cX12_adds 305 = .ok (.aload_n 0, 1) := by decide +kernel
theorem dX12_adds_306 : decode cX12_adds 306 = .ok (.getfield 28, 3) := by decide +kernel
theorem dX12_adds_309 : decode cX12_adds 309 = .ok (.iload 11, 2) := by decide +kernel
theorem dX12_adds_311 : decode cX12_adds 311 = .ok (.iload_n 2, 1) := by decide +kernel
theorem dX12_adds_312 : decode cX12_adds 312 = .ok (.iastore, 1) := by decide +kernel
theorem dX12_adds_313 : decode cX12_adds 313 = .ok (.aload_n 0, 1) := by decide +kernel
theorem dX12_adds_314 : decode cX12_adds 314 = .ok (.getfield 31, 3) := by decide +kernel
theorem dX12_adds_317 : decode cX12_adds 317 = .ok (.iload 11, 2) := by decide +kernel
theorem dX12_adds_319 : decode cX12_adds 319 = .ok (.iload_n 3, 1) := by decide +kernel
theorem dX12_adds_320 : decode cX12_adds 320 = .ok (.bipush 16, 2) := by decide +kernel
theorem dX12_adds_322 : decode cX12_adds 322 = .ok (.irem, 1) := by decide +kernel
theorem dX12_adds_323 : decode cX12_adds 323 = .ok (.iastore, 1) := by decide +kernel
theorem dX12_adds_324 : decode cX12_adds 324 = .ok (.aload_n 0, 1) := by decide +kernel
theorem dX12_adds_325 : decode cX12_adds 325 = .ok (.getfield 34, 3) := by decide +kernel
theorem dX12_adds_328 : decode cX12_adds 328 = .ok (.iload 11, 2) := by decide +kernel
theorem dX12_adds_330 : decode cX12_adds 330 = .ok (.iload_n 3, 1) := by decide +kernel
theorem dX12_adds_331 : decode cX12_adds 331 = .ok (.bipush 16, 2) := by decide +kernel
theorem dX12_adds_333 : decode cX12_adds 333 = .ok (.idiv, 1) := by decide +kernel
theorem dX12_adds_334 : decode cX12_adds 334 = .ok (.iastore, 1) := by decide +kernel
theorem dX12_adds_335 : decode cX12_adds 335 = .ok (.aload_n 0, 1) := by decide +kernel
theorem dX12_adds_336 : decode cX12_adds 336 = .ok (.getfield 37, 3) := by decide +kernel
theorem dX12_adds_339 : decode cX12_adds 339 = .ok (.iload 11, 2) := by decide +kernel
theorem dX12_adds_341 : decode cX12_adds 341 = .ok (.iload 6, 2) := by decide +kernel
theorem dX12_adds_343 : decode cX12_adds 343 = .ok (.iastore, 1) := by decide +kernel
theorem dX12_adds_344 : decode cX12_adds 344 = .ok (.aload_n 0, 1) := by decide +kernel
theorem dX12_adds_345 : decode cX12_adds 345 = .ok (.getfield 40, 3) := by decide +kernel
theorem dX12_adds_348 : decode cX12_adds 348 = .ok (.iload 11, 2) := by decide +kernel
theorem dX12_adds_350 : decode cX12_adds 350 = .ok (.iload 7, 2) := by decide +kernel
theorem dX12_adds_352 : decode cX12_adds 352 = .ok (.iastore, 1) := by decide +kernel
theorem dX12_adds_353 : decode cX12_adds 353 = .ok (.aload_n 0, 1) := by decide +kernel
theorem dX12_adds_354 : decode cX12_adds 354 = .ok (.getfield 43, 3) := by decide +kernel
theorem dX12_adds_357 : decode cX12_adds 357 = .ok (.iload 11, 2) := by decide +kernel
theorem dX12_adds_359 : decode cX12_adds 359 = .ok (.iload 8, 2) := by decide +kernel
theorem dX12_adds_361 : decode cX12_adds 361 = .ok (.ifCond .eq 8, 3) := by decide +kernel
theorem dX12_adds_364 : decode cX12_adds 364 = .ok (.iload 4, 2) := by decide +kernel
theorem dX12_adds_366 : decode cX12_adds 366 = .ok (.goto 4, 3) := by decide +kernel
theorem dX12_adds_369 : decode cX12_adds 369 = .ok (.iconst 0, 1) := by decide +kernel
theorem dX12_adds_370 : decode cX12_adds 370 = .ok (.iastore, 1) := by decide +kernel
theorem dX12_adds_371 : decode cX12_adds 371 = .ok (.aload_n 0, 1) := by decide +kernel
theorem dX12_adds_372 : decode cX12_adds 372 = .ok (.getfield 46, 3) := by decide +kernel
theorem dX12_adds_375 : decode cX12_adds 375 = .ok (.iload 11, 2) := by decide +kernel
theorem dX12_adds_377 : decode cX12_adds 377 = .ok (.iload 8, 2) := by decide +kernel
theorem dX12_adds_379 : decode cX12_adds 379 = .ok (.ifCond .eq 16, 3) := by decide +kernel
theorem dX12_adds_382 : decode cX12_adds 382 = .ok (.iload 5, 2) := by decide +kernel
theorem dX12_adds_384 : decode cX12_adds 384 = .ok (.ifCond .lt 11, 3) := by decide +kernel
theorem dX12_adds_387 : decode cX12_adds 387 = .ok (.iload 5, 2) := by decide +kernel
theorem dX12_adds_389 : decode cX12_adds 389 = .ok (.bipush 16, 2) := by decide +kernel
theorem dX12_adds_391 : decode cX12_adds 391 = .ok (.irem, 1) := by decide +kernel
theorem dX12_adds_392 : decode cX12_adds 392 = .ok (.goto 4, 3) := by decide +kernel
theorem dX12_adds_395 : decode cX12_adds 395 = .ok (.iconst (-1), 1) := by decide +kernel
theorem dX12_adds_396 : decode cX12_adds 396 = .ok (.iastore, 1) := by decide +kernel
theorem dX12_adds_397 : decode cX12_adds 397 = .ok (.aload_n 0, 1) := by decide +kernel
theorem dX12_adds_398 : decode cX12_adds 398 = .ok (.getfield 49, 3) := by decide +kernel
theorem dX12_adds_401 : decode cX12_adds 401 = .ok (.iload 11, 2) := by decide +kernel
theorem dX12_adds_403 : decode cX12_adds 403 = .ok (.iload 8, 2) := by decide +kernel
theorem dX12_adds_405 : decode cX12_adds 405 = .ok (.ifCond .eq 16, 3) := by decide +kernel
theorem dX12_adds_408 : decode cX12_adds 408 = .ok (.iload 5, 2) := by decide +kernel
theorem dX12_adds_410 : decode cX12_adds 410 = .ok (.ifCond .lt 11, 3) := by decide +kernel
theorem dX12_adds_413 : decode cX12_adds 413 = .ok (.iload 5, 2) := by decide +kernel
theorem dX12_adds_415 : decode cX12_adds 415 = .ok (.bipush 16, 2) := by decide +kernel
theorem dX12_adds_417 : decode cX12_adds 417 = .ok (.idiv, 1) := by decide +kernel
theorem dX12_adds_418 : decode cX12_adds 418 = .ok (.goto 4, 3) := by decide +kernel
theorem dX12_adds_421 : decode cX12_adds 421 = .ok (.iconst 0, 1) := by decide +kernel
theorem dX12_adds_422 : decode cX12_adds 422 = .ok (.iastore, 1) := by decide +kernel
theorem dX12_adds_423 : decode cX12_adds 423 = .ok (.aload_n 0, 1) := by decide +kernel
theorem dX12_adds_424 : decode cX12_adds 424 = .ok (.getfield 52, 3) := by decide +kernel
theorem dX12_adds_427 : decode cX12_adds 427 = .ok (.iload 11, 2) := by decide +kernel
theorem dX12_adds_429 : decode cX12_adds 429 = .ok (.aload_n 0, 1) := by decide +kernel
theorem dX12_adds_430 : decode cX12_adds 430 = .ok (.getfield 164, 3) := by decide +kernel
theorem dX12_adds_433 : decode cX12_adds 433 = .ok (.iastore, 1) := by decide +kernel
theorem dX12_adds_434 : decode cX12_adds 434 = .ok (.aload_n 0, 1) := by decide +kernel
theorem dX12_adds_435 : decode cX12_adds 435 = .ok (.getfield 55, 3) := by decide +kernel
theorem dX12_adds_438 : decode cX12_adds 438 = .ok (.iload 11, 2) := by decide +kernel
theorem dX12_adds_440 : decode cX12_adds 440 = .ok (.aload_n 0, 1) := by decide +kernel
theorem dX12_adds_441 : decode cX12_adds 441 = .ok (.getfield 167, 3) := by decide +kernel
theorem dX12_adds_444 : decode cX12_adds 444 = .ok (.iastore, 1) := by decide +kernel
theorem dX12_adds_445 : decode cX12_adds 445 = .ok (.aload_n 0, 1) := by decide +kernel
theorem dX12_adds_446 : decode cX12_adds 446 = .ok (.getfield 58, 3) := by decide +kernel
theorem dX12_adds_449 : decode cX12_adds 449 = .ok (.iload 11, 2) := by decide +kernel
theorem dX12_adds_451 : decode cX12_adds 451 = .ok (.aload_n 0, 1) := by decide +kernel
theorem dX12_adds_452 : decode cX12_adds 452 = .ok (.getfield 177, 3) := by decide +kernel
theorem dX12_adds_455 : decode cX12_adds 455 = .ok (.iastore, 1) := by decide +kernel
theorem dX12_adds_456 : decode cX12_adds 456 = .ok (.aload_n 0, 1) := by decide +kernel
theorem dX12_adds_457 : decode cX12_adds 457 = .ok (.iconst 0, 1) := by decide +kernel
theorem dX12_adds_458 : decode cX12_adds 458 = .ok (.putfield 153, 3) := by decide +kernel
theorem dX12_adds_461 : decode cX12_adds 461 = .ok (.aload_n 0, 1) := by decide +kernel
theorem dX12_adds_462 : decode cX12_adds 462 = .ok (.iload 11, 2) := by decide +kernel
theorem dX12_adds_464 : decode cX12_adds 464 = .ok (.invokevirtual 157, 3) := by decide +kernel
theorem dX12_adds_467 : decode cX12_adds 467 = .ok (.ireturn, 1) := by decide +kernel
theorem dX12_findNeeds_0 : decode cX12_findNeeds 0 = .ok (.iconst 0, 1) := by decide +kernel
theorem dX12_findNeeds_1 : decode cX12_findNeeds 1 = .ok (.istore_n 1, 1) := by decide +kernel
theorem dX12_findNeeds_2 : decode cX12_findNeeds 2 = .ok (.iload_n 1, 1) := by decide +kernel
theorem dX12_findNeeds_3 : decode cX12_findNeeds 3 = .ok (.bipush 10, 2) := by decide +kernel
theorem dX12_findNeeds_5 : decode cX12_findNeeds 5 = .ok (.if_icmp .ge 16, 3) := by decide +kernel
theorem dX12_findNeeds_8 : decode cX12_findNeeds 8 = .ok (.aload_n 0, 1) := by decide +kernel
theorem dX12_findNeeds_9 : decode cX12_findNeeds 9 = .ok (.getfield 76, 3) := by decide +kernel
theorem dX12_findNeeds_12 : decode cX12_findNeeds 12 = .ok (.iload_n 1, 1) := by decide +kernel
theorem dX12_findNeeds_13 : decode cX12_findNeeds 13 = .ok (.iconst 0, 1) := by decide +kernel
theorem dX12_findNeeds_14 : decode cX12_findNeeds 14 = .ok (.iastore, 1) := by decide +kernel
theorem dX12_findNeeds_15 : decode cX12_findNeeds 15 = .ok (.iinc 1 1, 3) := by decide +kernel
theorem dX12_findNeeds_18 : decode cX12_findNeeds 18 = .ok (.goto (-16), 3) := by decide +kernel
theorem dX12_findNeeds_21 : decode cX12_findNeeds 21 = .ok (.iconst 0, 1) := by decide +kernel
theorem dX12_findNeeds_22 : decode cX12_findNeeds 22 = .ok (.istore_n 1, 1) := by decide +kernel
theorem dX12_findNeeds_23 : decode cX12_findNeeds 23 = .ok (.iload_n 1, 1) := by decide +kernel
theorem dX12_findNeeds_24 : decode cX12_findNeeds 24 = .ok (.aload_n 0, 1) := by decide +kernel
theorem dX12_findNeeds_25 : decode cX12_findNeeds 25 = .ok (.getfield 70, 3) := by decide +kernel
theorem dX12_findNeeds_28 : decode cX12_findNeeds 28 = .ok (.iconst 1, 1) := by decide +kernel
theorem dX12_findNeeds_29 : decode cX12_findNeeds 29 = .ok (.iaload, 1) := by decide +kernel
theorem dX12_findNeeds_30 : decode cX12_findNeeds 30 = .ok (.if_icmp .ge 85, 3) := by decide +kernel
theorem dX12_findNeeds_33 : decode cX12_findNeeds 33 = .ok (.aload_n 0, 1) := by decide +kernel
theorem dX12_findNeeds_34 : decode cX12_findNeeds 34 = .ok (.getfield 25, 3) := by decide +kernel
theorem dX12_findNeeds_37 : decode cX12_findNeeds 37 = .ok (.iload_n 1, 1) := by decide +kernel
theorem dX12_findNeeds_38 : decode cX12_findNeeds 38 = .ok (.iaload, 1) := by decide +kernel
theorem dX12_findNeeds_39 : decode cX12_findNeeds 39 = .ok (.iconst 3, 1) := by decide +kernel
theorem dX12_findNeeds_40 : decode cX12_findNeeds 40 = .ok (.if_icmp .le 6, 3) := by decide +kernel
theorem dX12_findNeeds_43 : decode cX12_findNeeds 43 = .ok (.goto 66, 3) := by decide +kernel
theorem dX12_findNeeds_46 : decode cX12_findNeeds 46 = .ok (.aload_n 0, 1) := by decide +kernel
theorem dX12_findNeeds_47 : decode cX12_findNeeds 47 = .ok (.getfield 52, 3) := by decide +kernel
theorem dX12_findNeeds_50 : decode cX12_findNeeds 50 = .ok (.iload_n 1, 1) := by decide +kernel
theorem dX12_findNeeds_51 : decode cX12_findNeeds 51 = .ok (.iaload, 1) := by decide +kernel
theorem dX12_findNeeds_52 : decode cX12_findNeeds 52 = .ok (.iconst 2, 1) := by decide +kernel
theorem dX12_findNeeds_53 : decode cX12_findNeeds 53 = .ok (.if_icmp .le 25, 3) := by decide +kernel
theorem dX12_findNeeds_56 : decode cX12_findNeeds 56 = .ok (.aload_n 0, 1) := by decide +kernel
theorem dX12_findNeeds_57 : decode cX12_findNeeds 57 = .ok (.getfield 76, 3) := by decide +kernel
theorem dX12_findNeeds_60 : decode cX12_findNeeds 60 = .ok (.aload_n 0, 1) := by decide +kernel
theorem dX12_findNeeds_61 : decode cX12_findNeeds 61 = .ok (.getfield 28, 3) := by decide +kernel
theorem dX12_findNeeds_64 : decode cX12_findNeeds 64 = .ok (.iload_n 1, 1) := by decide +kernel
theorem dX12_findNeeds_65 : decode cX12_findNeeds 65 = .ok (.iaload, 1) := by decide +kernel
theorem dX12_findNeeds_66 : decode cX12_findNeeds 66 = .ok (.dup2, 1) := by decide +kernel
theorem dX12_findNeeds_67 : decode cX12_findNeeds 67 = .ok (.iaload, 1) := by decide +kernel
theorem dX12_findNeeds_68 : decode cX12_findNeeds 68 = .ok (.iconst 1, 1) := by decide +kernel
theorem dX12_findNeeds_69 : decode cX12_findNeeds 69 = .ok (.aload_n 0, 1) := by decide +kernel
theorem dX12_findNeeds_70 : decode cX12_findNeeds 70 = .ok (.getfield 55, 3) := by decide +kernel
theorem dX12_findNeeds_73 : decode cX12_findNeeds 73 = .ok (.iload_n 1, 1) := by decide +kernel
theorem dX12_findNeeds_74 : decode cX12_findNeeds 74 = .ok (.iaload, 1) := by decide +kernel
theorem dX12_findNeeds_75 : decode cX12_findNeeds 75 = .ok (.ishl, 1) := by decide +kernel
theorem dX12_findNeeds_76 : decode cX12_findNeeds 76 = .ok (.ior, 1) := by decide +kernel
theorem dX12_findNeeds_77 : decode cX12_findNeeds 77 = .ok (.iastore, 1) := by decide +kernel
theorem dX12_findNeeds_78 : decode cX12_findNeeds 78 = .ok (.aload_n 0, 1) := by decide +kernel
theorem dX12_findNeeds_79 : decode cX12_findNeeds 79 = .ok (.getfield 46, 3) := by decide +kernel
theorem dX12_findNeeds_82 : decode cX12_findNeeds 82 = .ok (.iload_n 1, 1) := by decide +kernel
theorem dX12_findNeeds_83 : decode cX12_findNeeds 83 = .ok (.iaload, 1) := by decide +kernel
theorem dX12_findNeeds_84 : decode cX12_findNeeds 84 = .ok (.ifCond .lt 25, 3) := by decide +kernel
theorem dX12_findNeeds_87 : decode cX12_findNeeds 87 = .ok (.aload_n 0, 1) := by decide +kernel
theorem dX12_findNeeds_88 : decode cX12_findNeeds 88 = .ok (.getfield 76, 3) := by decide +kernel
theorem dX12_findNeeds_91 : decode cX12_findNeeds 91 = .ok (.aload_n 0, 1) := by decide +kernel
theorem dX12_findNeeds_92 : decode cX12_findNeeds 92 = .ok (.getfield 28, 3) := by decide +kernel
theorem dX12_findNeeds_95 : decode cX12_findNeeds 95 = .ok (.iload_n 1, 1) := by decide +kernel
theorem dX12_findNeeds_96 : decode cX12_findNeeds 96 = .ok (.iaload, 1) := by decide +kernel
theorem dX12_findNeeds_97 : decode cX12_findNeeds 97 = .ok (.dup2, 1) := by decide +kernel
theorem dX12_findNeeds_98 : decode cX12_findNeeds 98 = .ok (.iaload, 1) := by decide +kernel
theorem dX12_findNeeds_99 : decode cX12_findNeeds 99 = .ok (.iconst 1, 1) := by decide +kernel
theorem dX12_findNeeds_100 : decode cX12_findNeeds 100 = .ok (.aload_n 0, 1) := by decide +kernel
theorem dX12_findNeeds_101 : decode cX12_findNeeds 101 = .ok (.getfield 46, 3) := by decide +kernel
theorem dX12_findNeeds_104 : decode cX12_findNeeds 104 = .ok (.iload_n 1, 1) := by decide +kernel
theorem dX12_findNeeds_105 : decode cX12_findNeeds 105 = .ok (.iaload, 1) := by decide +kernel
theorem dX12_findNeeds_106 : decode cX12_findNeeds 106 = .ok (.ishl, 1) := by decide +kernel
theorem dX12_findNeeds_107 : decode cX12_findNeeds 107 = .ok (.ior, 1) := by decide +kernel
theorem dX12_findNeeds_108 : decode cX12_findNeeds 108 = .ok (.iastore, 1) := by decide +kernel
theorem dX12_findNeeds_109 : decode cX12_findNeeds 109 = .ok (.iinc 1 1, 3) := by decide +kernel
theorem dX12_findNeeds_112 : decode cX12_findNeeds 112 = .ok (.goto (-89), 3) := by decide +kernel
theorem dX12_findNeeds_115 : decode cX12_findNeeds 115 = .ok (.return_, 1) := by decide +kernel
theorem dX12_isRing_0 : decode cX12_isRing 0 = .ok (.aload_n 0, 1) := by decide +kernel
theorem dX12_isRing_1 : decode cX12_isRing 1 = .ok (.invokevirtual 197, 3) := by decide +kernel
theorem dX12_isRing_4 : decode cX12_isRing 4 = .ok (.aload_n 0, 1) := by decide +kernel
theorem dX12_isRing_5 : decode cX12_isRing 5 = .ok (.getfield 76, 3) := by decide +kernel
theorem dX12_isRing_8 : decode cX12_isRing 8 = .ok (.iload_n 1, 1) := by decide +kernel
theorem dX12_isRing_9 : decode cX12_isRing 9 = .ok (.dup2, 1) := by decide +kernel
theorem dX12_isRing_10 : decode cX12_isRing 10 = .ok (.iaload, 1) := by decide +kernel
theorem dX12_isRing_11 : decode cX12_isRing 11 = .ok (.iload_n 2, 1) := by decide +kernel
theorem dX12_isRing_12 : decode cX12_isRing 12 = .ok (.ior, 1) := by decide +kernel
theorem dX12_isRing_13 : decode cX12_isRing 13 = .ok (.iastore, 1) := by decide +kernel
theorem dX12_isRing_14 : decode cX12_isRing 14 = .ok (.iconst 0, 1) := by decide +kernel
theorem dX12_isRing_15 : decode cX12_isRing 15 = .ok (.istore_n 3, 1) := by decide +kernel
theorem dX12_isRing_16 : decode cX12_isRing 16 = .ok (.iload_n 3, 1) := by decide +kernel
theorem dX12_isRing_17 : decode cX12_isRing 17 = .ok (.bipush 10, 2) := by decide +kernel
theorem dX12_isRing_19 : decode cX12_isRing 19 = .ok (.if_icmp .ge 26, 3) := by decide +kernel
theorem dX12_isRing_22 : decode cX12_isRing 22 = .ok (.aload_n 0, 1) := by decide +kernel
theorem dX12_isRing_23 : decode cX12_isRing 23 = .ok (.getfield 79, 3) := by decide +kernel
theorem dX12_isRing_26 : decode cX12_isRing 26 = .ok (.iload_n 3, 1) := by decide +kernel
theorem dX12_isRing_27 : decode cX12_isRing 27 = .ok (.iload_n 3, 1) := by decide +kernel
theorem dX12_isRing_28 : decode cX12_isRing 28 = .ok (.iload_n 1, 1) := by decide +kernel
theorem dX12_isRing_29 : decode cX12_isRing 29 = .ok (.if_icmp .ne 7, 3) := by decide +kernel
theorem dX12_isRing_32 : decode cX12_isRing 32 = .ok (.iconst 0, 1) := by decide +kernel
theorem dX12_isRing_33 : decode cX12_isRing 33 = .ok (.goto 5, 3) := by decide +kernel
theorem dX12_isRing_36 : decode cX12_isRing 36 = .ok (.bipush 100, 2) := by decide +kernel
theorem dX12_isRing_38 : decode cX12_isRing 38 = .ok (.iastore, 1) := by decide +kernel
theorem dX12_isRing_39 : decode cX12_isRing 39 = .ok (.iinc 3 1, 3) := by decide +kernel
theorem dX12_isRing_42 : decode cX12_isRing 42 = .ok (.goto (-26), 3) := by decide +kernel
theorem dX12_isRing_45 : decode cX12_isRing 45 = .ok (.iconst 0, 1) := by decide +kernel
theorem dX12_isRing_46 : decode cX12_isRing 46 = .ok (.istore_n 3, 1) := by decide +kernel
theorem dX12_isRing_47 : decode cX12_isRing 47 = .ok (.iload_n 3, 1) := by decide +kernel
theorem dX12_isRing_48 : decode cX12_isRing 48 = .ok (.bipush 10, 2) := by decide +kernel
theorem dX12_isRing_50 : decode cX12_isRing 50 = .ok (.if_icmp .ge 98, 3) := by decide +kernel
theorem dX12_isRing_53 : decode cX12_isRing 53 = .ok (.iconst 0, 1) := by decide +kernel
theorem dX12_isRing_54 : decode cX12_isRing 54 = .ok (.istore 4, 2) := by decide +kernel
theorem dX12_isRing_56 : decode cX12_isRing 56 = .ok (.iload 4, 2) := by decide +kernel
theorem dX12_isRing_58 : decode cX12_isRing 58 = .ok (.bipush 10, 2) := by decide +kernel
theorem dX12_isRing_60 : decode cX12_isRing 60 = .ok (.if_icmp .ge 82, 3) := by decide +kernel
theorem dX12_isRing_63 : decode cX12_isRing 63 = .ok (.iconst 0, 1) := by decide +kernel
theorem dX12_isRing_64 : decode cX12_isRing 64 = .ok (.istore 5, 2) := by decide +kernel
theorem dX12_isRing_66 : decode cX12_isRing 66 = .ok (.iload 5, 2) := by decide +kernel
theorem dX12_isRing_68 : decode cX12_isRing 68 = .ok (.bipush 10, 2) := by decide +kernel
theorem dX12_isRing_70 : decode cX12_isRing 70 = .ok (.if_icmp .ge 66, 3) := by decide +kernel
theorem dX12_isRing_73 : decode cX12_isRing 73 = .ok (.iload 4, 2) := by decide +kernel
theorem dX12_isRing_75 : decode cX12_isRing 75 = .ok (.iload_n 1, 1) := by decide +kernel
theorem dX12_isRing_76 : decode cX12_isRing 76 = .ok (.if_icmp .eq 54, 3) := by decide +kernel
theorem dX12_isRing_79 : decode cX12_isRing 79 = .ok (.aload_n 0, 1) := by decide +kernel
theorem dX12_isRing_80 : decode cX12_isRing 80 = .ok (.getfield 76, 3) := by decide +kernel
theorem dX12_isRing_83 : decode cX12_isRing 83 = .ok (.iload 4, 2) := by decide +kernel
theorem dX12_isRing_85 : decode cX12_isRing 85 = .ok (.iaload, 1) := by decide +kernel
theorem dX12_isRing_86 : decode cX12_isRing 86 = .ok (.iload 5, 2) := by decide +kernel
theorem dX12_isRing_88 : decode cX12_isRing 88 = .ok (.ishr, 1) := by decide +kernel
theorem dX12_isRing_89 : decode cX12_isRing 89 = .ok (.iconst 1, 1) := by decide +kernel
theorem dX12_isRing_90 : decode cX12_isRing 90 = .ok (.iand, 1) := by decide +kernel
theorem dX12_isRing_91 : decode cX12_isRing 91 = .ok (.iconst 1, 1) := by decide +kernel
theorem dX12_isRing_92 : decode cX12_isRing 92 = .ok (.if_icmp .ne 38, 3) := by decide +kernel
theorem dX12_isRing_95 : decode cX12_isRing 95 = .ok (.aload_n 0, 1) := by decide +kernel
theorem dX12_isRing_96 : decode cX12_isRing 96 = .ok (.getfield 79, 3) := by decide +kernel
theorem dX12_isRing_99 : decode cX12_isRing 99 = .ok (.iload 5, 2) := by decide +kernel
theorem dX12_isRing_101 : decode cX12_isRing 101 = .ok (.iaload, 1) := by decide +kernel
theorem dX12_isRing_102 : decode cX12_isRing 102 = .ok (.iconst 1, 1) := by decide +kernel
theorem dX12_isRing_103 : decode cX12_isRing 103 = .ok (.iadd, 1) := by decide +kernel
theorem dX12_isRing_104 : decode cX12_isRing 104 = .ok (.aload_n 0, 1) := by decide +kernel
theorem dX12_isRing_105 : decode cX12_isRing 105 = .ok (.getfield 79, 3) := by decide +kernel
theorem dX12_isRing_108 : decode cX12_isRing 108 = .ok (.iload 4, 2) := by decide +kernel
theorem dX12_isRing_110 : decode cX12_isRing 110 = .ok (.iaload, 1) := by decide +kernel
theorem dX12_isRing_111 : decode cX12_isRing 111 = .ok (.if_icmp .ge 19, 3) := by decide +kernel
theorem dX12_isRing_114 : decode cX12_isRing 114 = .ok (.aload_n 0, 1) := by decide +kernel
theorem dX12_isRing_115 : decode cX12_isRing 115 = .ok (.getfield 79, 3) := by decide +kernel
theorem dX12_isRing_118 : decode cX12_isRing 118 = .ok (.iload 4, 2) := by decide +kernel
theorem dX12_isRing_120 : decode cX12_isRing 120 = .ok (.aload_n 0, 1) := by decide +kernel
theorem dX12_isRing_121 : decode cX12_isRing 121 = .ok (.getfield 79, 3) := by decide +kernel
theorem dX12_isRing_124 : decode cX12_isRing 124 = .ok (.iload 5, 2) := by decide +kernel
theorem dX12_isRing_126 : decode cX12_isRing 126 = .ok (.iaload, 1) := by decide +kernel
theorem dX12_isRing_127 : decode cX12_isRing 127 = .ok (.iconst 1, 1) := by decide +kernel
theorem dX12_isRing_128 : decode cX12_isRing 128 = .ok (.iadd, 1) := by decide +kernel
theorem dX12_isRing_129 : decode cX12_isRing 129 = .ok (.iastore, 1) := by decide +kernel
theorem dX12_isRing_130 : decode cX12_isRing 130 = .ok (.iinc 5 1, 3) := by decide +kernel
theorem dX12_isRing_133 : decode cX12_isRing 133 = .ok (.goto (-67), 3) := by decide +kernel
theorem dX12_isRing_136 : decode cX12_isRing 136 = .ok (.iinc 4 1, 3) := by decide +kernel
theorem dX12_isRing_139 : decode cX12_isRing 139 = .ok (.goto (-83), 3) := by decide +kernel
theorem dX12_isRing_142 : decode cX12_isRing 142 = .ok (.iinc 3 1, 3) := by decide +kernel
theorem dX12_isRing_145 : decode cX12_isRing 145 = .ok (.goto (-98), 3) := by decide +kernel
theorem dX12_isRing_148 : decode cX12_isRing 148 = .ok (.bipush 100, 2) := by decide +kernel
theorem dX12_isRing_150 : decode cX12_isRing 150 = .ok (.istore_n 3, 1) := by decide +kernel
theorem dX12_isRing_151 : decode cX12_isRing 151 = .ok (.iconst 0, 1) := by decide +kernel
theorem dX12_isRing_152 : decode cX12_isRing 152 = .ok (.istore 4, 2) := by decide +kernel
theorem dX12_isRing_154 : decode cX12_isRing 154 = .ok (.iload 4, 2) := by decide +kernel
theorem dX12_isRing_156 : decode cX12_isRing 156 = .ok (.bipush 10, 2) := by decide +kernel
theorem dX12_isRing_158 : decode cX12_isRing 158 = .ok (.if_icmp .ge 43, 3) := by decide +kernel
theorem dX12_isRing_161 : decode cX12_isRing 161 = .ok (.aload_n 0, 1) := by decide +kernel
theorem dX12_isRing_162 : decode cX12_isRing 162 = .ok (.getfield 76, 3) := by decide +kernel
theorem dX12_isRing_165 : decode cX12_isRing 165 = .ok (.iload_n 1, 1) := by decide +kernel
theorem dX12_isRing_166 : decode cX12_isRing 166 = .ok (.iaload, 1) := by decide +kernel
theorem dX12_isRing_167 : decode cX12_isRing 167 = .ok (.iload 4, 2) := by decide +kernel
theorem dX12_isRing_169 : decode cX12_isRing 169 = .ok (.ishr, 1) := by decide +kernel
theorem dX12_isRing_170 : decode cX12_isRing 170 = .ok (.iconst 1, 1) := by decide +kernel
theorem dX12_isRing_171 : decode cX12_isRing 171 = .ok (.iand, 1) := by decide +kernel
theorem dX12_isRing_172 : decode cX12_isRing 172 = .ok (.iconst 1, 1) := by decide +kernel
theorem dX12_isRing_173 : decode cX12_isRing 173 = .ok (.if_icmp .ne 22, 3) := by decide +kernel
theorem dX12_isRing_176 : decode cX12_isRing 176 = .ok (.aload_n 0, 1) := by decide +kernel
theorem dX12_isRing_177 : decode cX12_isRing 177 = .ok (.getfield 79, 3) := by decide +kernel
theorem dX12_isRing_180 : decode cX12_isRing 180 = .ok (.iload 4, 2) := by decide +kernel
theorem dX12_isRing_182 : decode cX12_isRing 182 = .ok (.iaload, 1) := by decide +kernel
theorem dX12_isRing_183 : decode cX12_isRing 183 = .ok (.iload_n 3, 1) := by decide +kernel
theorem dX12_isRing_184 : decode cX12_isRing 184 = .ok (.if_icmp .ge 11, 3) := by decide +kernel
theorem dX12_isRing_187 : decode cX12_isRing 187 = .ok (.aload_n 0, 1) := by decide +kernel
theorem dX12_isRing_188 : decode cX12_isRing 188 = .ok (.getfield 79, 3) := by decide +kernel
theorem dX12_isRing_191 : decode cX12_isRing 191 = .ok (.iload 4, 2) := by decide +kernel
theorem dX12_isRing_193 : decode cX12_isRing 193 = .ok (.iaload, 1) := by decide +kernel
theorem dX12_isRing_194 : decode cX12_isRing 194 = .ok (.istore_n 3, 1) := by decide +kernel
theorem dX12_isRing_195 : decode cX12_isRing 195 = .ok (.iinc 4 1, 3) := by decide +kernel
theorem dX12_isRing_198 : decode cX12_isRing 198 = .ok (.goto (-44), 3) := by decide +kernel
theorem dX12_isRing_201 : decode cX12_isRing 201 = .ok (.iload_n 3, 1) := by decide +kernel
theorem dX12_isRing_202 : decode cX12_isRing 202 = .ok (.bipush 100, 2) := by decide +kernel
theorem dX12_isRing_204 : decode cX12_isRing 204 = .ok (.if_icmp .lt 5, 3) := by decide +kernel
theorem dX12_isRing_207 : decode cX12_isRing 207 = .ok (.iconst 0, 1) := by decide +kernel
theorem dX12_isRing_208 : decode cX12_isRing 208 = .ok (.ireturn, 1) := by decide +kernel
theorem dX12_isRing_209 : decode cX12_isRing 209 = .ok (.aload_n 0, 1) := by decide +kernel
theorem dX12_isRing_210 : decode cX12_isRing 210 = .ok (.getfield 82, 3) := by decide +kernel
theorem dX12_isRing_213 : decode cX12_isRing 213 = .ok (.iconst 0, 1) := by decide +kernel
theorem dX12_isRing_214 : decode cX12_isRing 214 = .ok (.iload_n 1, 1) := by decide +kernel
theorem dX12_isRing_215 : decode cX12_isRing 215 = .ok (.iastore, 1) := by decide +kernel
theorem dX12_isRing_216 : decode cX12_isRing 216 = .ok (.aload_n 0, 1) := by decide +kernel
theorem dX12_isRing_217 : decode cX12_isRing 217 = .ok (.iload_n 3, 1) := by decide +kernel
theorem dX12_isRing_218 : decode cX12_isRing 218 = .ok (.iconst 1, 1) := by decide +kernel
theorem dX12_isRing_219 : decode cX12_isRing 219 = .ok (.iadd, 1) := by decide +kernel
theorem dX12_isRing_220 : decode cX12_isRing 220 = .ok (.putfield 200, 3) := by decide +kernel
theorem dX12_isRing_223 : decode cX12_isRing 223 = .ok (.iconst 1, 1) := by decide +kernel
theorem dX12_isRing_224 : decode cX12_isRing 224 = .ok (.istore 4, 2) := by decide +kernel
theorem dX12_isRing_226 : decode cX12_isRing 226 = .ok (.iload 4, 2) := by decide +kernel
theorem dX12_isRing_228 : decode cX12_isRing 228 = .ok (.aload_n 0, 1) := by decide +kernel
theorem dX12_isRing_229 : decode cX12_isRing 229 = .ok (.getfield 200, 3) := by decide +kernel
theorem dX12_isRing_232 : decode cX12_isRing 232 = .ok (.if_icmp .ge 66, 3) := by decide +kernel
theorem dX12_isRing_235 : decode cX12_isRing 235 = .ok (.iconst 0, 1) := by decide +kernel
theorem dX12_isRing_236 : decode cX12_isRing 236 = .ok (.istore 5, 2) := by decide +kernel
theorem dX12_isRing_238 : decode cX12_isRing 238 = .ok (.aload_n 0, 1) := by decide +kernel
theorem dX12_isRing_239 : decode cX12_isRing 239 = .ok (.getfield 76, 3) := by decide +kernel
theorem dX12_isRing_242 : decode cX12_isRing 242 = .ok (.aload_n 0, 1) := by decide +kernel
theorem dX12_isRing_243 : decode cX12_isRing 243 = .ok (.getfield 82, 3) := by decide +kernel
theorem dX12_isRing_246 : decode cX12_isRing 246 = .ok (.iload 4, 2) := by decide +kernel
theorem dX12_isRing_248 : decode cX12_isRing 248 = .ok (.iconst 1, 1) := by decide +kernel
theorem dX12_isRing_249 : decode cX12_isRing 249 = .ok (.isub, 1) := by decide +kernel
theorem dX12_isRing_250 : decode cX12_isRing 250 = .ok (.iaload, 1) := by decide +kernel
theorem dX12_isRing_251 : decode cX12_isRing 251 = .ok (.iaload, 1) := by decide +kernel
theorem dX12_isRing_252 : decode cX12_isRing 252 = .ok (.iload 5, 2) := by decide +kernel
theorem dX12_isRing_254 : decode cX12_isRing 254 = .ok (.ishr, 1) := by decide +kernel
theorem dX12_isRing_255 : decode cX12_isRing 255 = .ok (.iconst 1, 1) := by decide +kernel
theorem dX12_isRing_256 : decode cX12_isRing 256 = .ok (.iand, 1) := by decide +kernel
theorem dX12_isRing_257 : decode cX12_isRing 257 = .ok (.ifCond .eq 20, 3) := by decide +kernel
theorem dX12_isRing_260 : decode cX12_isRing 260 = .ok (.aload_n 0, 1) := by decide +kernel
theorem dX12_isRing_261 : decode cX12_isRing 261 = .ok (.getfield 79, 3) := by decide +kernel
theorem dX12_isRing_264 : decode cX12_isRing 264 = .ok (.iload 5, 2) := by decide +kernel
theorem dX12_isRing_266 : decode cX12_isRing 266 = .ok (.iaload, 1) := by decide +kernel
theorem dX12_isRing_267 : decode cX12_isRing 267 = .ok (.aload_n 0, 1) := by decide +kernel
theorem dX12_isRing_268 : decode cX12_isRing 268 = .ok (.getfield 200, 3) := by decide +kernel
theorem dX12_isRing_271 : decode cX12_isRing 271 = .ok (.iload 4, 2) := by decide +kernel
theorem dX12_isRing_273 : decode cX12_isRing 273 = .ok (.isub, 1) := by decide +kernel
theorem dX12_isRing_274 : decode cX12_isRing 274 = .ok (.if_icmp .eq 9, 3) := by decide +kernel
theorem dX12_isRing_277 : decode cX12_isRing 277 = .ok (.iinc 5 1, 3) := by decide +kernel
theorem dX12_isRing_280 : decode cX12_isRing 280 = .ok (.goto (-42), 3) := by decide +kernel
theorem dX12_isRing_283 : decode cX12_isRing 283 = .ok (.aload_n 0, 1) := by decide +kernel
theorem dX12_isRing_284 : decode cX12_isRing 284 = .ok (.getfield 82, 3) := by decide +kernel
theorem dX12_isRing_287 : decode cX12_isRing 287 = .ok (.iload 4, 2) := by decide +kernel
theorem dX12_isRing_289 : decode cX12_isRing 289 = .ok (.iload 5, 2) := by decide +kernel
theorem dX12_isRing_291 : decode cX12_isRing 291 = .ok (.iastore, 1) := by decide +kernel
theorem dX12_isRing_292 : decode cX12_isRing 292 = .ok (.iinc 4 1, 3) := by decide +kernel
theorem dX12_isRing_295 : decode cX12_isRing 295 = .ok (.goto (-69), 3) := by decide +kernel
theorem dX12_isRing_298 : decode cX12_isRing 298 = .ok (.iconst 1, 1) := by decide +kernel
theorem dX12_isRing_299 : decode cX12_isRing 299 = .ok (.ireturn, 1) := by decide +kernel
theorem dX12_ring_0 : decode cX12_ring 0 = .ok (.iload_n 1, 1) := by decide +kernel
theorem dX12_ring_1 : decode cX12_ring 1 = .ok (.i2l, 1) := by decide +kernel
theorem dX12_ring_2 : decode cX12_ring 2 = .ok (.lconst 0, 1) := by decide +kernel
theorem dX12_ring_3 : decode cX12_ring 3 = .ok (.aload_n 0, 1) := by decide +kernel
theorem dX12_ring_4 : decode cX12_ring 4 = .ok (.getfield 200, 3) := by decide +kernel
theorem dX12_ring_7 : decode cX12_ring 7 = .ok (.iconst 1, 1) := by decide +kernel
theorem dX12_ring_8 : decode cX12_ring 8 = .ok (.isub, 1) := by decide +kernel
theorem dX12_ring_9 : decode cX12_ring 9 = .ok (.i2l, 1) := by decide +kernel
theorem dX12_ring_10 : decode cX12_ring 10 = .ok (.invokestatic 135, 3) := by decide +kernel
theorem dX12_ring_13 : decode cX12_ring 13 = .ok (.ifCond .eq 12, 3) := by decide +kernel
theorem dX12_ring_16 : decode cX12_ring 16 = .ok (.aload_n 0, 1) := by decide +kernel
theorem dX12_ring_17 : decode cX12_ring 17 = .ok (.getfield 82, 3) := by decide +kernel
theorem dX12_ring_20 : decode cX12_ring 20 = .ok (.iload_n 1, 1) := by decide +kernel
theorem dX12_ring_21 : decode cX12_ring 21 = .ok (.iaload, 1) := by decide +kernel
theorem dX12_ring_22 : decode cX12_ring 22 = .ok (.goto 4, 3) := by decide +kernel
theorem dX12_ring_25 : decode cX12_ring 25 = .ok (.iconst (-1), 1) := by decide +kernel
theorem dX12_ring_26 : decode cX12_ring 26 = .ok (.ireturn, 1) := by decide +kernel
theorem dX12_needs_0 : decode cX12_needs 0 = .ok (.aload_n 0, 1) := by decide +kernel
theorem dX12_needs_1 : decode cX12_needs 1 = .ok (.iload_n 1, 1) := by decide +kernel
theorem dX12_needs_2 : decode cX12_needs 2 = .ok (.invokevirtual 170, 3) := by decide +kernel
theorem dX12_needs_5 : decode cX12_needs 5 = .ok (.ifCond .eq 11, 3) := by decide +kernel
theorem dX12_needs_8 : decode cX12_needs 8 = .ok (.aload_n 0, 1) := by decide +kernel
theorem dX12_needs_9 : decode cX12_needs 9 = .ok (.iload_n 2, 1) := by decide +kernel
theorem dX12_needs_10 : decode cX12_needs 10 = .ok (.invokevirtual 170, 3) := by decide +kernel
theorem dX12_needs_13 : decode cX12_needs 13 = .ok (.ifCond .ne 5, 3) := by decide +kernel
theorem dX12_needs_16 : decode cX12_needs 16 = .ok (.iconst (-1), 1) := by decide +kernel
theorem dX12_needs_17 : decode cX12_needs 17 = .ok (.ireturn, 1) := by decide +kernel
theorem dX12_needs_18 : decode cX12_needs 18 = .ok (.aload_n 0, 1) := by decide +kernel
theorem dX12_needs_19 : decode cX12_needs 19 = .ok (.invokevirtual 197, 3) := by decide +kernel
theorem dX12_needs_22 : decode cX12_needs 22 = .ok (.aload_n 0, 1) := by decide +kernel
theorem dX12_needs_23 : decode cX12_needs 23 = .ok (.getfield 76, 3) := by decide +kernel
theorem dX12_needs_26 : decode cX12_needs 26 = .ok (.iload_n 1, 1) := by decide +kernel
theorem dX12_needs_27 : decode cX12_needs 27 = .ok (.iaload, 1) := by decide +kernel
theorem dX12_needs_28 : decode cX12_needs 28 = .ok (.istore_n 3, 1) := by decide +kernel
theorem dX12_needs_29 : decode cX12_needs 29 = .ok (.iconst 0, 1) := by decide +kernel
theorem dX12_needs_30 : decode cX12_needs 30 = .ok (.istore 4, 2) := by decide +kernel
theorem dX12_needs_32 : decode cX12_needs 32 = .ok (.iload 4, 2) := by decide +kernel
theorem dX12_needs_34 : decode cX12_needs 34 = .ok (.bipush 10, 2) := by decide +kernel
theorem dX12_needs_36 : decode cX12_needs 36 = .ok (.if_icmp .ge 49, 3) := by decide +kernel
theorem dX12_needs_39 : decode cX12_needs 39 = .ok (.iconst 0, 1) := by decide +kernel
theorem dX12_needs_40 : decode cX12_needs 40 = .ok (.istore 5, 2) := by decide +kernel
theorem dX12_needs_42 : decode cX12_needs 42 = .ok (.iload 5, 2) := by decide +kernel
theorem dX12_needs_44 : decode cX12_needs 44 = .ok (.bipush 10, 2) := by decide +kernel
theorem dX12_needs_46 : decode cX12_needs 46 = .ok (.if_icmp .ge 33, 3) := by decide +kernel
theorem dX12_needs_49 : decode cX12_needs 49 = .ok (.iload_n 3, 1) := by decide +kernel
theorem dX12_needs_50 : decode cX12_needs 50 = .ok (.iload_n 3, 1) := by decide +kernel
theorem dX12_needs_51 : decode cX12_needs 51 = .ok (.iload 5, 2) := by decide +kernel
theorem dX12_needs_53 : decode cX12_needs 53 = .ok (.ishr, 1) := by decide +kernel
theorem dX12_needs_54 : decode cX12_needs 54 = .ok (.iconst 1, 1) := by decide +kernel
theorem dX12_needs_55 : decode cX12_needs 55 = .ok (.iand, 1) := by decide +kernel
theorem dX12_needs_56 : decode cX12_needs 56 = .ok (.iconst 1, 1) := by decide +kernel
theorem dX12_needs_57 : decode cX12_needs 57 = .ok (.if_icmp .ne 13, 3) := by decide +kernel
theorem dX12_needs_60 : decode cX12_needs 60 = .ok (.aload_n 0, 1) := by decide +kernel
theorem dX12_needs_61 : decode cX12_needs 61 = .ok (.getfield 76, 3) := by decide +kernel
theorem dX12_needs_64 : decode cX12_needs 64 = .ok (.iload 5, 2) := by decide +kernel
theorem dX12_needs_66 : decode cX12_needs 66 = .ok (.iaload, 1) := by decide +kernel
theorem dX12_needs_67 : decode cX12_needs 67 = .ok (.goto 4, 3) := by decide +kernel
theorem dX12_needs_70 : decode cX12_needs 70 = .ok (.iconst 0, 1) := by decide +kernel
theorem dX12_needs_71 : decode cX12_needs 71 = .ok (.ior, 1) := by decide +kernel
theorem dX12_needs_72 : decode cX12_needs 72 = .ok (.istore_n 3, 1) := by decide +kernel
theorem dX12_needs_73 : decode cX12_needs 73 = .ok (.iinc 5 1, 3) := by decide +kernel
theorem dX12_needs_76 : decode cX12_needs 76 = .ok (.goto (-34), 3) := by decide +kernel
theorem dX12_needs_79 : decode cX12_needs 79 = .ok (.iinc 4 1, 3) := by decide +kernel
theorem dX12_needs_82 : decode cX12_needs 82 = .ok (.goto (-50), 3) := by decide +kernel
theorem dX12_needs_85 : decode cX12_needs 85 = .ok (.iload_n 3, 1) := by decide +kernel
theorem dX12_needs_86 : decode cX12_needs 86 = .ok (.iload_n 2, 1) := by decide +kernel
theorem dX12_needs_87 : decode cX12_needs 87 = .ok (.ishr, 1) := by decide +kernel
theorem dX12_needs_88 : decode cX12_needs 88 = .ok (.iconst 1, 1) := by decide +kernel
theorem dX12_needs_89 : decode cX12_needs 89 = .ok (.iand, 1) := by decide +kernel
theorem dX12_needs_90 : decode cX12_needs 90 = .ok (.ireturn, 1) := by decide +kernel
theorem dX12_stack_0 : decode cX12_stack 0 = .ok (.iload_n 1, 1) := by decide +kernel
theorem dX12_stack_1 : decode cX12_stack 1 = .ok (.i2l, 1) := by decide +kernel
theorem dX12_stack_2 : decode cX12_stack 2 = .ok (.lconst 1, 1) := by decide +kernel
theorem dX12_stack_3 : decode cX12_stack 3 = .ok (.ldc2_w 143, 3) := by decide +kernel
theorem dX12_stack_6 : decode cX12_stack 6 = .ok (.invokestatic 135, 3) := by decide +kernel
theorem dX12_stack_9 : decode cX12_stack 9 = .ok (.ifCond .ne 9, 3) := by decide +kernel
theorem dX12_stack_12 : decode cX12_stack 12 = .ok (.aload_n 0, 1) := by decide +kernel
theorem dX12_stack_13 : decode cX12_stack 13 = .ok (.iconst 1, 1) := by decide +kernel
theorem dX12_stack_14 : decode cX12_stack 14 = .ok (.invokevirtual 149, 3) := by decide +kernel
theorem dX12_stack_17 : decode cX12_stack 17 = .ok (.ireturn, 1) := by decide +kernel
