theorem dX8_copyOf_202 : decode cX8_copyOf 202 = .ok (.aload_n 1, 1) := by decide +kernel
theorem dX8_copyOf_203 : decode cX8_copyOf 203 = .ok (.getfield 61, 3) := by decide +kernel
theorem dX8_copyOf_206 : decode cX8_copyOf 206 = .ok (.putfield 61, 3) := by decide +kernel
theorem dX8_copyOf_209 : decode cX8_copyOf 209 = .ok (.aload_n 0, 1) := by decide +kernel
theorem dX8_copyOf_210 : decode cX8_copyOf 210 = .ok (.aload_n 1, 1) := by decide +kernel
theorem dX8_copyOf_211 : decode cX8_copyOf 211 = .ok (.getfield 64, 3) := by decide +kernel
theorem dX8_copyOf_214 : decode cX8_copyOf 214 = .ok (.putfield 64, 3) := by decide +kernel
theorem dX8_copyOf_217 : decode cX8_copyOf 217 = .ok (.return_, 1) := by decide +kernel
theorem dX8_addValue_0 : decode cX8_addValue 0 = .ok (.aload_n 0, 1) := by decide +kernel
theorem dX8_addValue_1 : decode cX8_addValue 1 = .ok (.getfield 15, 3) := by decide +kernel
theorem dX8_addValue_4 : decode cX8_addValue 4 = .ok (.aload_n 0, 1) := by decide +kernel
theorem dX8_addValue_5 : decode cX8_addValue 5 = .ok (.getfield 9, 3) := by decide +kernel
theorem dX8_addValue_8 : decode cX8_addValue 8 = .ok (.iload_n 1, 1) := by decide +kernel
theorem dX8_addValue_9 : decode cX8_addValue 9 = .ok (.iastore, 1) := by decide +kernel
theorem dX8_addValue_10 : decode cX8_addValue 10 = .ok (.aload_n 0, 1) := by decide +kernel
theorem dX8_addValue_11 : decode cX8_addValue 11 = .ok (.getfield 19, 3) := by decide +kernel
theorem dX8_addValue_14 : decode cX8_addValue 14 = .ok (.aload_n 0, 1) := by decide +kernel
theorem dX8_addValue_15 : decode cX8_addValue 15 = .ok (.getfield 9, 3) := by decide +kernel
theorem dX8_addValue_18 : decode cX8_addValue 18 = .ok (.iload_n 2, 1) := by decide +kernel
theorem dX8_addValue_19 : decode cX8_addValue 19 = .ok (.iastore, 1) := by decide +kernel
theorem dX8_addValue_20 : decode cX8_addValue 20 = .ok (.aload_n 0, 1) := by decide +kernel
theorem dX8_addValue_21 : decode cX8_addValue 21 = .ok (.getfield 22, 3) := by decide +kernel
theorem dX8_addValue_24 : decode cX8_addValue 24 = .ok (.aload_n 0, 1) := by decide +kernel
theorem dX8_addValue_25 : decode cX8_addValue 25 = .ok (.getfield 9, 3) := by decide +kernel
theorem dX8_addValue_28 : decode cX8_addValue 28 = .ok (.iconst 0, 1) := by decide +kernel
theorem dX8_addValue_29 : decode cX8_addValue 29 = .ok (.iastore, 1) := by decide +kernel
theorem dX8_addValue_30 : decode cX8_addValue 30 = .ok (.aload_n 0, 1) := by decide +kernel
theorem dX8_addValue_31 : decode cX8_addValue 31 = .ok (.getfield 25, 3) := by decide +kernel
theorem dX8_addValue_34 : decode cX8_addValue 34 = .ok (.aload_n 0, 1) := by decide +kernel
theorem dX8_addValue_35 : decode cX8_addValue 35 = .ok (.getfield 9, 3) := by decide +kernel
theorem dX8_addValue_38 : decode cX8_addValue 38 = .ok (.iload_n 3, 1) := by decide +kernel
theorem dX8_addValue_39 : decode cX8_addValue 39 = .ok (.iastore, 1) := by decide +kernel
theorem dX8_addValue_40 : decode cX8_addValue 40 = .ok (.aload_n 0, 1) := by decide +kernel
theorem dX8_addValue_41 : decode cX8_addValue 41 = .ok (.getfield 28, 3) := by decide +kernel
theorem dX8_addValue_44 : decode cX8_addValue 44 = .ok (.aload_n 0, 1) := by decide +kernel
theorem dX8_addValue_45 : decode cX8_addValue 45 = .ok (.getfield 9, 3) := by decide +kernel
theorem dX8_addValue_48 : decode cX8_addValue 48 = .ok (.iconst 0, 1) := by decide +kernel
theorem dX8_addValue_49 : decode cX8_addValue 49 = .ok (.iastore, 1) := by decide +kernel
theorem dX8_addValue_50 : decode cX8_addValue 50 = .ok (.aload_n 0, 1) := by decide +kernel
theorem dX8_addValue_51 : decode cX8_addValue 51 = .ok (.getfield 31, 3) := by decide +kernel
theorem dX8_addValue_54 : decode cX8_addValue 54 = .ok (.aload_n 0, 1) := by decide +kernel
theorem dX8_addValue_55 : decode cX8_addValue 55 = .ok (.getfield 9, 3) := by decide +kernel
theorem dX8_addValue_58 : decode cX8_addValue 58 = .ok (.iconst 0, 1) := by decide +kernel
theorem dX8_addValue_59 : decode cX8_addValue 59 = .ok (.iastore, 1) := by decide +kernel
theorem dX8_addValue_60 : decode cX8_addValue 60 = .ok (.aload_n 0, 1) := by decide +kernel
theorem dX8_addValue_61 : decode cX8_addValue 61 = .ok (.dup, 1) := by decide +kernel
theorem dX8_addValue_62 : decode cX8_addValue 62 = .ok (.getfield 9, 3) := by decide +kernel
theorem dX8_addValue_65 : decode cX8_addValue 65 = .ok (.iconst 1, 1) := by decide +kernel
theorem dX8_addValue_66 : decode cX8_addValue 66 = .ok (.iadd, 1) := by decide +kernel
theorem dX8_addValue_67 : decode cX8_addValue 67 = .ok (.putfield 9, 3) := by decide +kernel
theorem dX8_addValue_70 : decode cX8_addValue 70 = .ok (.return_, 1) := by decide +kernel
theorem dX8_diceCount_0 : decode cX8_diceCount 0 = .ok (.aload_n 0, 1) := by decide +kernel
theorem dX8_diceCount_1 : decode cX8_diceCount 1 = .ok (.getfield 25, 3) := by decide +kernel
theorem dX8_diceCount_4 : decode cX8_diceCount 4 = .ok (.iload_n 1, 1) := by decide +kernel
theorem dX8_diceCount_5 : decode cX8_diceCount 5 = .ok (.iaload, 1) := by decide +kernel
theorem dX8_diceCount_6 : decode cX8_diceCount 6 = .ok (.bipush 7, 2) := by decide +kernel
theorem dX8_diceCount_8 : decode cX8_diceCount 8 = .ok (.iand, 1) := by decide +kernel
theorem dX8_diceCount_9 : decode cX8_diceCount 9 = .ok (.ireturn, 1) := by decide +kernel
theorem dX8_diceSides_0 : decode cX8_diceSides 0 = .ok (.aload_n 0, 1) := by decide +kernel
theorem dX8_diceSides_1 : decode cX8_diceSides 1 = .ok (.getfield 25, 3) := by decide +kernel
theorem dX8_diceSides_4 : decode cX8_diceSides 4 = .ok (.iload_n 1, 1) := by decide +kernel
theorem dX8_diceSides_5 : decode cX8_diceSides 5 = .ok (.iaload, 1) := by decide +kernel
theorem dX8_diceSides_6 : decode cX8_diceSides 6 = .ok (.iconst 3, 1) := by decide +kernel
theorem dX8_diceSides_7 : decode cX8_diceSides 7 = .ok (.ishr, 1) := by decide +kernel
theorem dX8_diceSides_8 : decode cX8_diceSides 8 = .ok (.ireturn, 1) := by decide +kernel
theorem dX8_addRule_0 : decode cX8_addRule 0 = .ok (.aload_n 0, 1) := by decide +kernel
theorem dX8_addRule_1 : decode cX8_addRule 1 = .ok (.getfield 39, 3) := by decide +kernel
theorem dX8_addRule_4 : decode cX8_addRule 4 = .ok (.aload_n 0, 1) := by decide +kernel
theorem dX8_addRule_5 : decode cX8_addRule 5 = .ok (.getfield 34, 3) := by decide +kernel
theorem dX8_addRule_8 : decode cX8_addRule 8 = .ok (.aload_n 1, 1) := by decide +kernel
theorem dX8_addRule_9 : decode cX8_addRule 9 = .ok (.aastore, 1) := by decide +kernel
theorem dX8_addRule_10 : decode cX8_addRule 10 = .ok (.aload_n 0, 1) := by decide +kernel
theorem dX8_addRule_11 : decode cX8_addRule 11 = .ok (.dup, 1) := by decide +kernel
theorem dX8_addRule_12 : decode cX8_addRule 12 = .ok (.getfield 34, 3) := by decide +kernel
theorem dX8_addRule_15 : decode cX8_addRule 15 = .ok (.iconst 1, 1) := by decide +kernel
theorem dX8_addRule_16 : decode cX8_addRule 16 = .ok (.iadd, 1) := by decide +kernel
theorem dX8_addRule_17 : decode cX8_addRule 17 = .ok (.putfield 34, 3) := by decide +kernel
theorem dX8_addRule_20 : decode cX8_addRule 20 = .ok (.aload_n 1, 1) := by decide +kernel
theorem dX8_addRule_21 : decode cX8_addRule 21 = .ok (.getfield 73, 3) := by decide +kernel
theorem dX8_addRule_24 : decode cX8_addRule 24 = .ok (.iconst (-1), 1) := by decide +kernel
theorem dX8_addRule_25 : decode cX8_addRule 25 = .ok (.if_icmp .eq 15, 3) := by decide +kernel
theorem dX8_addRule_28 : decode cX8_addRule 28 = .ok (.aload_n 0, 1) := by decide +kernel
theorem dX8_addRule_29 : decode cX8_addRule 29 = .ok (.aload_n 1, 1) := by decide +kernel
theorem dX8_addRule_30 : decode cX8_addRule 30 = .ok (.getfield 73, 3) := by decide +kernel
theorem dX8_addRule_33 : decode cX8_addRule 33 = .ok (.aload_n 1, 1) := by decide +kernel
theorem dX8_addRule_34 : decode cX8_addRule 34 = .ok (.invokevirtual 76, 3) := by decide +kernel
theorem dX8_addRule_37 : decode cX8_addRule 37 = .ok (.invokevirtual 80, 3) := by decide +kernel
theorem dX8_addRule_40 : decode cX8_addRule 40 = .ok (.return_, 1) := by decide +kernel
theorem dX8_addNeeds_0 : decode cX8_addNeeds 0 = .ok (.aload_n 0, 1) := by decide +kernel
theorem dX8_addNeeds_1 : decode cX8_addNeeds 1 = .ok (.getfield 28, 3) := by decide +kernel
theorem dX8_addNeeds_4 : decode cX8_addNeeds 4 = .ok (.iload_n 1, 1) := by decide +kernel
theorem dX8_addNeeds_5 : decode cX8_addNeeds 5 = .ok (.dup2, 1) := by decide +kernel
theorem dX8_addNeeds_6 : decode cX8_addNeeds 6 = .ok (.iaload, 1) := by decide +kernel
theorem dX8_addNeeds_7 : decode cX8_addNeeds 7 = .ok (.iload_n 2, 1) := by decide +kernel
theorem dX8_addNeeds_8 : decode cX8_addNeeds 8 = .ok (.ior, 1) := by decide +kernel
theorem dX8_addNeeds_9 : decode cX8_addNeeds 9 = .ok (.iastore, 1) := by decide +kernel
theorem dX8_addNeeds_10 : decode cX8_addNeeds 10 = .ok (.iload_n 2, 1) := by decide +kernel
theorem dX8_addNeeds_11 : decode cX8_addNeeds 11 = .ok (.istore_n 3, 1) := by decide +kernel
theorem dX8_addNeeds_12 : decode cX8_addNeeds 12 = .ok (.iconst 0, 1) := by decide +kernel
theorem dX8_addNeeds_13 : decode cX8_addNeeds 13 = .ok (.istore 4, 2) := by decide +kernel
theorem dX8_addNeeds_15 : decode cX8_addNeeds 15 = .ok (.iload 4, 2) := by decide +kernel
theorem dX8_addNeeds_17 : decode cX8_addNeeds 17 = .ok (.aload_n 0, 1) := by decide +kernel
theorem dX8_addNeeds_18 : decode cX8_addNeeds 18 = .ok (.getfield 9, 3) := by decide +kernel
theorem dX8_addNeeds_21 : decode cX8_addNeeds 21 = .ok (.if_icmp .ge 28, 3) := by decide +kernel
theorem dX8_addNeeds_24 : decode cX8_addNeeds 24 = .ok (.iload_n 2, 1) := by decide +kernel
theorem dX8_addNeeds_25 : decode cX8_addNeeds 25 = .ok (.iload 4, 2) := by decide +kernel
theorem dX8_addNeeds_27 : decode cX8_addNeeds 27 = .ok (.invokestatic 84, 3) := by decide +kernel
theorem dX8_addNeeds_30 : decode cX8_addNeeds 30 = .ok (.ifCond .eq 13, 3) := by decide +kernel
theorem dX8_addNeeds_33 : decode cX8_addNeeds 33 = .ok (.iload_n 3, 1) := by decide +kernel
theorem dX8_addNeeds_34 : decode cX8_addNeeds 34 = .ok (.aload_n 0, 1) := by decide +kernel
theorem dX8_addNeeds_35 : decode cX8_addNeeds 35 = .ok (.getfield 31, 3) := by decide +kernel
theorem dX8_addNeeds_38 : decode cX8_addNeeds 38 = .ok (.iload 4, 2) := by decide +kernel
theorem dX8_addNeeds_40 : decode cX8_addNeeds 40 = .ok (.iaload, 1) := by decide +kernel
theorem dX8_addNeeds_41 : decode cX8_addNeeds 41 = .ok (.ior, 1) := by decide +kernel
theorem dX8_addNeeds_42 : decode cX8_addNeeds 42 = .ok (.istore_n 3, 1) := by decide +kernel
theorem dX8_addNeeds_43 : decode cX8_addNeeds 43 = .ok (.iinc 4 1, 3) := by decide +kernel
theorem dX8_addNeeds_46 : decode cX8_addNeeds 46 = .ok (.goto (-31), 3) := by decide +kernel
theorem dX8_addNeeds_49 : decode cX8_addNeeds 49 = .ok (.iconst 0, 1) := by decide +kernel
theorem dX8_addNeeds_50 : decode cX8_addNeeds 50 = .ok (.istore 4, 2) := by decide +kernel
theorem dX8_addNeeds_52 : decode cX8_addNeeds 52 = .ok (.iload 4, 2) := by decide +kernel
theorem dX8_addNeeds_54 : decode cX8_addNeeds 54 = .ok (.aload_n 0, 1) := by decide +kernel
theorem dX8_addNeeds_55 : decode cX8_addNeeds 55 = .ok (.getfield 9, 3) := by decide +kernel
theorem dX8_addNeeds_58 : decode cX8_addNeeds 58 = .ok (.if_icmp .ge 40, 3) := by decide +kernel
theorem dX8_addNeeds_61 : decode cX8_addNeeds 61 = .ok (.iload 4, 2) := by decide +kernel
theorem dX8_addNeeds_63 : decode cX8_addNeeds 63 = .ok (.iload_n 1, 1) := by decide +kernel
theorem dX8_addNeeds_64 : decode cX8_addNeeds 64 = .ok (.if_icmp .eq 17, 3) := by decide +kernel
theorem dX8_addNeeds_67 : decode cX8_addNeeds 67 = .ok (.aload_n 0, 1) := by decide +kernel
theorem dX8_addNeeds_68 : decode cX8_addNeeds 68 = .ok (.getfield 31, 3) := by decide +kernel
theorem dX8_addNeeds_71 : decode cX8_addNeeds 71 = .ok (.iload 4, 2) := by decide +kernel
theorem dX8_addNeeds_73 : decode cX8_addNeeds 73 = .ok (.iaload, 1) := by decide +kernel
theorem dX8_addNeeds_74 : decode cX8_addNeeds 74 = .ok (.iload_n 1, 1) := by decide +kernel
theorem dX8_addNeeds_75 : decode cX8_addNeeds 75 = .ok (.invokestatic 84, 3) := by decide +kernel
theorem dX8_addNeeds_78 : decode cX8_addNeeds 78 = .ok (.ifCond .eq 14, 3) := by decide +kernel
theorem dX8_addNeeds_81 : decode cX8_addNeeds 81 = .ok (.aload_n 0, 1) := by decide +kernel
theorem dX8_addNeeds_82 : decode cX8_addNeeds 82 = .ok (.getfield 31, 3) := by decide +kernel
theorem dX8_addNeeds_85 : decode cX8_addNeeds 85 = .ok (.iload 4, 2) := by decide +kernel
theorem dX8_addNeeds_87 : decode cX8_addNeeds 87 = .ok (.dup2, 1) := by decide +kernel
theorem dX8_addNeeds_88 : decode cX8_addNeeds 88 = .ok (.iaload, 1) := by decide +kernel
theorem dX8_addNeeds_89 : decode cX8_addNeeds 89 = .ok (.iload_n 3, 1) := by decide +kernel
theorem dX8_addNeeds_90 : decode cX8_addNeeds 90 = .ok (.ior, 1) := by decide +kernel
theorem dX8_addNeeds_91 : decode cX8_addNeeds 91 = .ok (.iastore, 1) := by decide +kernel
theorem dX8_addNeeds_92 : decode cX8_addNeeds 92 = .ok (.iinc 4 1, 3) := by decide +kernel
theorem dX8_addNeeds_95 : decode cX8_addNeeds 95 = .ok (.goto (-43), 3) := by decide +kernel
theorem dX8_addNeeds_98 : decode cX8_addNeeds 98 = .ok (.return_, 1) := by decide +kernel
theorem dX8_needing_0 : decode cX8_needing 0 = .ok (.iconst 0, 1) := by decide +kernel
theorem dX8_needing_1 : decode cX8_needing 1 = .ok (.istore_n 2, 1) := by decide +kernel
theorem dX8_needing_2 : decode cX8_needing 2 = .ok (.iconst 0, 1) := by decide +kernel
theorem dX8_needing_3 : decode cX8_needing 3 = .ok (.istore_n 3, 1) := by decide +kernel
theorem dX8_needing_4 : decode cX8_needing 4 = .ok (.iload_n 3, 1) := by decide +kernel
theorem dX8_needing_5 : decode cX8_needing 5 = .ok (.aload_n 0, 1) := by decide +kernel
theorem dX8_needing_6 : decode cX8_needing 6 = .ok (.getfield 9, 3) := by decide +kernel
theorem dX8_needing_9 : decode cX8_needing 9 = .ok (.if_icmp .ge 26, 3) := by decide +kernel
theorem dX8_needing_12 : decode cX8_needing 12 = .ok (.aload_n 0, 1) := by decide +kernel
theorem dX8_needing_13 : decode cX8_needing 13 = .ok (.getfield 28, 3) := by decide +kernel
theorem dX8_needing_16 : decode cX8_needing 16 = .ok (.iload_n 3, 1) := by decide +kernel
theorem dX8_needing_17 : decode cX8_needing 17 = .ok (.iaload, 1) := by decide +kernel
theorem dX8_needing_18 : decode cX8_needing 18 = .ok (.iload_n 1, 1) := by decide +kernel
theorem dX8_needing_19 : decode cX8_needing 19 = .ok (.iand, 1) := by decide +kernel
theorem dX8_needing_20 : decode cX8_needing 20 = .ok (.ifCond .eq 9, 3) := by decide +kernel
theorem dX8_needing_23 : decode cX8_needing 23 = .ok (.iload_n 2, 1) := by decide +kernel
theorem dX8_needing_24 : decode cX8_needing 24 = .ok (.iconst 1, 1) := by decide +kernel
theorem dX8_needing_25 : decode cX8_needing 25 = .ok (.iload_n 3, 1) := by decide +kernel
theorem dX8_needing_26 : decode cX8_needing 26 = .ok (.ishl, 1) := by decide +kernel
theorem dX8_needing_27 : decode cX8_needing 27 = .ok (.ior, 1) := by decide +kernel
theorem dX8_needing_28 : decode cX8_needing 28 = .ok (.istore_n 2, 1) := by decide +kernel
theorem dX8_needing_29 : decode cX8_needing 29 = .ok (.iinc 3 1, 3) := by decide +kernel
theorem dX8_needing_32 : decode cX8_needing 32 = .ok (.goto (-28), 3) := by decide +kernel
theorem dX8_needing_35 : decode cX8_needing 35 = .ok (.iload_n 2, 1) := by decide +kernel
theorem dX8_needing_36 : decode cX8_needing 36 = .ok (.ireturn, 1) := by decide +kernel
theorem dX8_addSpell_0 : decode cX8_addSpell 0 = .ok (.aload_n 0, 1) := by decide +kernel
theorem dX8_addSpell_1 : decode cX8_addSpell 1 = .ok (.getfield 46, 3) := by decide +kernel
theorem dX8_addSpell_4 : decode cX8_addSpell 4 = .ok (.aload_n 0, 1) := by decide +kernel
theorem dX8_addSpell_5 : decode cX8_addSpell 5 = .ok (.getfield 43, 3) := by decide +kernel
theorem dX8_addSpell_8 : decode cX8_addSpell 8 = .ok (.iload_n 1, 1) := by decide +kernel
theorem dX8_addSpell_9 : decode cX8_addSpell 9 = .ok (.iastore, 1) := by decide +kernel
theorem dX8_addSpell_10 : decode cX8_addSpell 10 = .ok (.aload_n 0, 1) := by decide +kernel
theorem dX8_addSpell_11 : decode cX8_addSpell 11 = .ok (.getfield 49, 3) := by decide +kernel
theorem dX8_addSpell_14 : decode cX8_addSpell 14 = .ok (.aload_n 0, 1) := by decide +kernel
theorem dX8_addSpell_15 : decode cX8_addSpell 15 = .ok (.getfield 43, 3) := by decide +kernel
theorem dX8_addSpell_18 : decode cX8_addSpell 18 = .ok (.iload_n 2, 1) := by decide +kernel
theorem dX8_addSpell_19 : decode cX8_addSpell 19 = .ok (.iastore, 1) := by decide +kernel
theorem dX8_addSpell_20 : decode cX8_addSpell 20 = .ok (.aload_n 0, 1) := by decide +kernel
theorem dX8_addSpell_21 : decode cX8_addSpell 21 = .ok (.getfield 52, 3) := by decide +kernel
theorem dX8_addSpell_24 : decode cX8_addSpell 24 = .ok (.aload_n 0, 1) := by decide +kernel
theorem dX8_addSpell_25 : decode cX8_addSpell 25 = .ok (.getfield 43, 3) := by decide +kernel
theorem dX8_addSpell_28 : decode cX8_addSpell 28 = .ok (.iload_n 3, 1) := by decide +kernel
theorem dX8_addSpell_29 : decode cX8_addSpell 29 = .ok (.iastore, 1) := by decide +kernel
theorem dX8_addSpell_30 : decode cX8_addSpell 30 = .ok (.aload_n 0, 1) := by decide +kernel
theorem dX8_addSpell_31 : decode cX8_addSpell 31 = .ok (.dup, 1) := by decide +kernel
theorem dX8_addSpell_32 : decode cX8_addSpell 32 = .ok (.getfield 43, 3) := by decide +kernel
theorem dX8_addSpell_35 : decode cX8_addSpell 35 = .ok (.iconst 1, 1) := by decide +kernel
theorem dX8_addSpell_36 : decode cX8_addSpell 36 = .ok (.iadd, 1) := by decide +kernel
theorem dX8_addSpell_37 : decode cX8_addSpell 37 = .ok (.putfield 43, 3) := by decide +kernel
theorem dX8_addSpell_40 : decode cX8_addSpell 40 = .ok (.return_, 1) := by decide +kernel
theorem dX8_lastingSpells_0 : decode cX8_lastingSpells 0 = .ok (.iconst 0, 1) := by decide +kernel
theorem dX8_lastingSpells_1 : decode cX8_lastingSpells 1 = .ok (.istore_n 1, 1) := by decide +kernel
theorem dX8_lastingSpells_2 : decode cX8_lastingSpells 2 = .ok (.iconst 0, 1) := by decide +kernel
theorem dX8_lastingSpells_3 : decode cX8_lastingSpells 3 = .ok (.istore_n 2, 1) := by decide +kernel
theorem dX8_lastingSpells_4 : decode cX8_lastingSpells 4 = .ok (.iload_n 2, 1) := by decide +kernel
theorem dX8_lastingSpells_5 : decode cX8_lastingSpells 5 = .ok (.aload_n 0, 1) := by decide +kernel
theorem dX8_lastingSpells_6 : decode cX8_lastingSpells 6 = .ok (.getfield 43, 3) := by decide +kernel
theorem dX8_lastingSpells_9 : decode cX8_lastingSpells 9 = .ok (.if_icmp .ge 25, 3) := by decide +kernel
theorem dX8_lastingSpells_12 : decode cX8_lastingSpells 12 = .ok (.aload_n 0, 1) := by decide +kernel
theorem dX8_lastingSpells_13 : decode cX8_lastingSpells 13 = .ok (.getfield 55, 3) := by decide +kernel
theorem dX8_lastingSpells_16 : decode cX8_lastingSpells 16 = .ok (.aload_n 0, 1) := by decide +kernel
theorem dX8_lastingSpells_17 : decode cX8_lastingSpells 17 = .ok (.getfield 52, 3) := by decide +kernel
theorem dX8_lastingSpells_20 : decode cX8_lastingSpells 20 = .ok (.iload_n 2, 1) := by decide +kernel
theorem dX8_lastingSpells_21 : decode cX8_lastingSpells 21 = .ok (.iaload, 1) := by decide +kernel
theorem dX8_lastingSpells_22 : decode cX8_lastingSpells 22 = .ok (.if_icmp .ge 6, 3) := by decide +kernel
theorem dX8_lastingSpells_25 : decode cX8_lastingSpells 25 = .ok (.iinc 1 1, 3) := by decide +kernel
theorem dX8_lastingSpells_28 : decode cX8_lastingSpells 28 = .ok (.iinc 2 1, 3) := by decide +kernel
theorem dX8_lastingSpells_31 : decode cX8_lastingSpells 31 = .ok (.goto (-27), 3) := by decide +kernel
theorem dX8_lastingSpells_34 : decode cX8_lastingSpells 34 = .ok (.iload_n 1, 1) := by decide +kernel
theorem dX8_lastingSpells_35 : decode cX8_lastingSpells 35 = .ok (.ireturn, 1) := by decide +kernel
theorem dX8_spellsOn_0 : decode cX8_spellsOn 0 = .ok (.lconst 0, 1) := by decide +kernel
theorem dX8_spellsOn_1 : decode cX8_spellsOn 1 = .ok (.lstore_n 2, 1) := by decide +kernel
theorem dX8_spellsOn_2 : decode cX8_spellsOn 2 = .ok (.iconst 0, 1) := by decide +kernel
theorem dX8_spellsOn_3 : decode cX8_spellsOn 3 = .ok (.istore 4, 2) := by decide +kernel
theorem dX8_spellsOn_5 : decode cX8_spellsOn 5 = .ok (.iload 4, 2) := by decide +kernel
theorem dX8_spellsOn_7 : decode cX8_spellsOn 7 = .ok (.aload_n 0, 1) := by decide +kernel
theorem dX8_spellsOn_8 : decode cX8_spellsOn 8 = .ok (.getfield 43, 3) := by decide +kernel
theorem dX8_spellsOn_11 : decode cX8_spellsOn 11 = .ok (.if_icmp .ge 45, 3) := by decide +kernel
theorem dX8_spellsOn_14 : decode cX8_spellsOn 14 = .ok (.aload_n 0, 1) := by decide +kernel
theorem dX8_spellsOn_15 : decode cX8_spellsOn 15 = .ok (.getfield 46, 3) := by decide +kernel
theorem dX8_spellsOn_18 : decode cX8_spellsOn 18 = .ok (.iload 4, 2) := by decide +kernel
theorem dX8_spellsOn_20 : decode cX8_spellsOn 20 = .ok (.iaload, 1) := by decide +kernel
theorem dX8_spellsOn_21 : decode cX8_spellsOn 21 = .ok (.iload_n 1, 1) := by decide +kernel
theorem dX8_spellsOn_22 : decode cX8_spellsOn 22 = .ok (.if_icmp .ne 28, 3) := by decide +kernel
theorem dX8_spellsOn_25 : decode cX8_spellsOn 25 = .ok (.aload_n 0, 1) := by decide +kernel
theorem dX8_spellsOn_26 : decode cX8_spellsOn 26 = .ok (.getfield 55, 3) := by decide +kernel
theorem dX8_spellsOn_29 : decode cX8_spellsOn 29 = .ok (.aload_n 0, 1) := by decide +kernel
theorem dX8_spellsOn_30 : decode cX8_spellsOn 30 = .ok (.getfield 52, 3) := by decide +kernel
theorem dX8_spellsOn_33 : decode cX8_spellsOn 33 = .ok (.iload 4, 2) := by decide +kernel
theorem dX8_spellsOn_35 : decode cX8_spellsOn 35 = .ok (.iaload, 1) := by decide +kernel
theorem dX8_spellsOn_36 : decode cX8_spellsOn 36 = .ok (.if_icmp .ge 14, 3) := by decide +kernel
theorem dX8_spellsOn_39 : decode cX8_spellsOn 39 = .ok (.lload_n 2, 1) := by decide +kernel
theorem dX8_spellsOn_40 : decode cX8_spellsOn 40 = .ok (.aload_n 0, 1) := by decide +kernel
theorem dX8_spellsOn_41 : decode cX8_spellsOn 41 = .ok (.getfield 49, 3) := by decide +kernel
theorem dX8_spellsOn_44 : decode cX8_spellsOn 44 = .ok (.iload 4, 2) := by decide +kernel
theorem dX8_spellsOn_46 : decode cX8_spellsOn 46 = .ok (.iaload, 1) := by decide +kernel
theorem dX8_spellsOn_47 : decode cX8_spellsOn 47 = .ok (.i2l, 1) := by decide +kernel
theorem dX8_spellsOn_48 : decode cX8_spellsOn 48 = .ok (.ladd, 1) := by decide +kernel
theorem dX8_spellsOn_49 : decode cX8_spellsOn 49 = .ok (.lstore_n 2, 1) := by decide +kernel
theorem dX8_spellsOn_50 : decode cX8_spellsOn 50 = .ok (.iinc 4 1, 3) := by decide +kernel
theorem dX8_spellsOn_53 : decode cX8_spellsOn 53 = .ok (.goto (-48), 3) := by decide +kernel
theorem dX8_spellsOn_56 : decode cX8_spellsOn 56 = .ok (.lload_n 2, 1) := by decide +kernel
theorem dX8_spellsOn_57 : decode cX8_spellsOn 57 = .ok (.lreturn, 1) := by decide +kernel
theorem dX9_init_0 : decode cX9_init 0 = .ok (.aload_n 0, 1) := by decide +kernel
theorem dX9_init_1 : decode cX9_init 1 = .ok (.invokespecial 3, 3) := by decide +kernel
theorem dX9_init_4 : decode cX9_init 4 = .ok (.aload_n 0, 1) := by decide +kernel
theorem dX9_init_5 : decode cX9_init 5 = .ok (.iload_n 1, 1) := by decide +kernel
theorem dX9_init_6 : decode cX9_init 6 = .ok (.putfield 9, 3) := by decide +kernel
theorem dX9_init_9 : decode cX9_init 9 = .ok (.aload_n 0, 1) := by decide +kernel
theorem dX9_init_10 : decode cX9_init 10 = .ok (.iload_n 2, 1) := by decide +kernel
theorem dX9_init_11 : decode cX9_init 11 = .ok (.putfield 15, 3) := by decide +kernel
theorem dX9_init_14 : decode cX9_init 14 = .ok (.aload_n 0, 1) := by decide +kernel
theorem dX9_init_15 : decode cX9_init 15 = .ok (.iload_n 3, 1) := by decide +kernel
theorem dX9_init_16 : decode cX9_init 16 = .ok (.putfield 18, 3) := by decide +kernel
theorem dX9_init_19 : decode cX9_init 19 = .ok (.return_, 1) := by decide +kernel
theorem dX9_holds_0 : decode cX9_holds 0 = .ok (.aload_n 0, 1) := by decide +kernel
theorem dX9_holds_1 : decode cX9_holds 1 = .ok (.getfield 9, 3) := by decide +kernel
theorem dX9_holds_4 : decode cX9_holds 4 = .ok (.tableswitch 108 1 4 #[32, 49, 66, 87], 32) := by decide +kernel
theorem dX9_holds_36 : decode cX9_holds 36 = .ok (.iload_n 1, 1) := by decide +kernel
theorem dX9_holds_37 : decode cX9_holds 37 = .ok (.aload_n 0, 1) := by decide +kernel
theorem dX9_holds_38 : decode cX9_holds 38 = .ok (.getfield 15, 3) := by decide +kernel
theorem dX9_holds_41 : decode cX9_holds 41 = .ok (.ishr, 1) := by decide +kernel
theorem dX9_holds_42 : decode cX9_holds 42 = .ok (.iconst 1, 1) := by decide +kernel
theorem dX9_holds_43 : decode cX9_holds 43 = .ok (.iand, 1) := by decide +kernel
theorem dX9_holds_44 : decode cX9_holds 44 = .ok (.ifCond .eq 7, 3) := by decide +kernel
theorem dX9_holds_47 : decode cX9_holds 47 = .ok (.iconst 1, 1) := by decide +kernel
theorem dX9_holds_48 : decode cX9_holds 48 = .ok (.goto 4, 3) := by decide +kernel
theorem dX9_holds_51 : decode cX9_holds 51 = .ok (.iconst 0, 1) := by decide +kernel
theorem dX9_holds_52 : decode cX9_holds 52 = .ok (.ireturn, 1) := by decide +kernel
theorem dX9_holds_53 : decode cX9_holds 53 = .ok (.iload_n 1, 1) := by decide +kernel
theorem dX9_holds_54 : decode cX9_holds 54 = .ok (.aload_n 0, 1) := by decide +kernel
theorem dX9_holds_55 : decode cX9_holds 55 = .ok (.getfield 15, 3) := by decide +kernel
theorem dX9_holds_58 : decode cX9_holds 58 = .ok (.ishr, 1) := by decide +kernel
theorem dX9_holds_59 : decode cX9_holds 59 = .ok (.iconst 1, 1) := by decide +kernel
theorem dX9_holds_60 : decode cX9_holds 60 = .ok (.iand, 1) := by decide +kernel
theorem dX9_holds_61 : decode cX9_holds 61 = .ok (.ifCond .ne 7, 3) := by decide +kernel
theorem dX9_holds_64 : decode cX9_holds 64 = .ok (.iconst 1, 1) := by decide +kernel
theorem dX9_holds_65 : decode cX9_holds 65 = .ok (.goto 4, 3) := by decide +kernel
theorem dX9_holds_68 : decode cX9_holds 68 = .ok (.iconst 0, 1) := by decide +kernel
theorem dX9_holds_69 : decode cX9_holds 69 = .ok (.ireturn, 1) := by decide +kernel
theorem dX9_holds_70 : decode cX9_holds 70 = .ok (.aload_n 2, 1) := by decide +kernel
theorem dX9_holds_71 : decode cX9_holds 71 = .ok (.aload_n 0, 1) := by decide +kernel
theorem dX9_holds_72 : decode cX9_holds 72 = .ok (.getfield 15, 3) := by decide +kernel
theorem dX9_holds_75 : decode cX9_holds 75 = .ok (.laload, 1) := by decide +kernel
theorem dX9_holds_76 : decode cX9_holds 76 = .ok (.aload_n 0, 1) := by decide +kernel
theorem dX9_holds_77 : decode cX9_holds 77 = .ok (.getfield 18, 3) := by decide +kernel
theorem dX9_holds_80 : decode cX9_holds 80 = .ok (.i2l, 1) := by decide +kernel
theorem dX9_holds_81 : decode cX9_holds 81 = .ok (.lcmp, 1) := by decide +kernel
theorem dX9_holds_82 : decode cX9_holds 82 = .ok (.ifCond .lt 7, 3) := by decide +kernel
theorem dX9_holds_85 : decode cX9_holds 85 = .ok (.iconst 1, 1) := by decide +kernel
theorem dX9_holds_86 : decode cX9_holds 86 = .ok (.goto 4, 3) := by decide +kernel
theorem dX9_holds_89 : decode cX9_holds 89 = .ok (.iconst 0, 1) := by decide +kernel
theorem dX9_holds_90 : decode cX9_holds 90 = .ok (.ireturn, 1) := by decide +kernel
theorem dX9_holds_91 : decode cX9_holds 91 = .ok (.aload_n 2, 1) := by decide +kernel
theorem dX9_holds_92 : decode cX9_holds 92 = .ok (.aload_n 0, 1) := by decide +kernel
theorem dX9_holds_93 : decode cX9_holds 93 = .ok (.getfield 15, 3) := by decide +kernel
theorem dX9_holds_96 : decode cX9_holds 96 = .ok (.laload, 1) := by decide +kernel
theorem dX9_holds_97 : decode cX9_holds 97 = .ok (.aload_n 0, 1) := by decide +kernel
theorem dX9_holds_98 : decode cX9_holds 98 = .ok (.getfield 18, 3) := by decide +kernel
theorem dX9_holds_101 : decode cX9_holds 101 = .ok (.i2l, 1) := by decide +kernel
theorem dX9_holds_102 : decode cX9_holds 102 = .ok (.lcmp, 1) := by decide +kernel
theorem dX9_holds_103 : decode cX9_holds 103 = .ok (.ifCond .ge 7, 3) := by decide +kernel
theorem dX9_holds_106 : decode cX9_holds 106 = .ok (.iconst 1, 1) := by decide +kernel
theorem dX9_holds_107 : decode cX9_holds 107 = .ok (.goto 4, 3) := by decide +kernel
theorem dX9_holds_110 : decode cX9_holds 110 = .ok (.iconst 0, 1) := by decide +kernel
theorem dX9_holds_111 : decode cX9_holds 111 = .ok (.ireturn, 1) := by decide +kernel
theorem dX9_holds_112 : decode cX9_holds 112 = .ok (.iconst 1, 1) := by decide +kernel
theorem dX9_holds_113 : decode cX9_holds 113 = .ok (.ireturn, 1) := by decide +kernel
theorem dX9_readBits_0 : decode cX9_readBits 0 = .ok (.aload_n 0, 1) := by decide +kernel
theorem dX9_readBits_1 : decode cX9_readBits 1 = .ok (.getfield 9, 3) := by decide +kernel
theorem dX9_readBits_4 : decode cX9_readBits 4 = .ok (.iconst 3, 1) := by decide +kernel
theorem dX9_readBits_5 : decode cX9_readBits 5 = .ok (.if_icmp .eq 11, 3) := by decide +kernel
theorem dX9_readBits_8 : decode cX9_readBits 8 = .ok (.aload_n 0, 1) := by decide +kernel
theorem dX9_readBits_9 : decode cX9_readBits 9 = .ok (.getfield 9, 3) := by decide +kernel
theorem dX9_readBits_12 : decode cX9_readBits 12 = .ok (.iconst 4, 1) := by decide +kernel
theorem dX9_readBits_13 : decode cX9_readBits 13 = .ok (.if_icmp .ne 12, 3) := by decide +kernel
theorem dX9_readBits_16 : decode cX9_readBits 16 = .ok (.iconst 1, 1) := by decide +kernel
theorem dX9_readBits_17 : decode cX9_readBits 17 = .ok (.aload_n 0, 1) := by decide +kernel
theorem dX9_readBits_18 : decode cX9_readBits 18 = .ok (.getfield 15, 3) := by decide +kernel
theorem dX9_readBits_21 : decode cX9_readBits 21 = .ok (.ishl, 1) := by decide +kernel
theorem dX9_readBits_22 : decode cX9_readBits 22 = .ok (.goto 4, 3) := by decide +kernel
theorem dX9_readBits_25 : decode cX9_readBits 25 = .ok (.iconst 0, 1) := by decide +kernel
theorem dX9_readBits_26 : decode cX9_readBits 26 = .ok (.ireturn, 1) := by decide +kernel
theorem dX10_init_0 : decode cX10_init 0 = .ok (.aload_n 0, 1) := by decide +kernel
theorem dX10_init_1 : decode cX10_init 1 = .ok (.iconst 1, 1) := by decide +kernel
theorem dX10_init_2 : decode cX10_init 2 = .ok (.iload_n 1, 1) := by decide +kernel
theorem dX10_init_3 : decode cX10_init 3 = .ok (.aload_n 2, 1) := by decide +kernel
theorem dX10_init_4 : decode cX10_init 4 = .ok (.iload 4, 2) := by decide +kernel
theorem dX10_init_6 : decode cX10_init 6 = .ok (.iload 5, 2) := by decide +kernel
theorem dX10_init_8 : decode cX10_init 8 = .ok (.iload 6, 2) := by decide +kernel
theorem dX10_init_10 : decode cX10_init 10 = .ok (.iload 7, 2) := by decide +kernel
theorem dX10_init_12 : decode cX10_init 12 = .ok (.invokespecial 3, 3) := by decide +kernel
theorem dX10_init_15 : decode cX10_init 15 = .ok (.aload_n 0, 1) := by decide +kernel
theorem dX10_init_16 : decode cX10_init 16 = .ok (.iload_n 3, 1) := by decide +kernel
theorem dX10_init_17 : decode cX10_init 17 = .ok (.putfield 9, 3) := by decide +kernel
theorem dX10_init_20 : decode cX10_init 20 = .ok (.return_, 1) := by decide +kernel
theorem dX10_give_0 : decode cX10_give 0 = .ok (.bipush 20, 2) := by decide +kernel
theorem dX10_give_2 : decode cX10_give 2 = .ok (.aload_n 2, 1) := by decide +kernel
theorem dX10_give_3 : decode cX10_give 3 = .ok (.invokestatic 15, 3) := by decide +kernel
theorem dX10_give_6 : decode cX10_give 6 = .ok (.aload_n 0, 1) := by decide +kernel
theorem dX10_give_7 : decode cX10_give 7 = .ok (.iload_n 1, 1) := by decide +kernel
theorem dX10_give_8 : decode cX10_give 8 = .ok (.aload_n 2, 1) := by decide +kernel
theorem dX10_give_9 : decode cX10_give 9 = .ok (.invokespecial 19, 3) := by decide +kernel
theorem dX10_give_12 : decode cX10_give 12 = .ok (.aload_n 0, 1) := by decide +kernel
theorem dX10_give_13 : decode cX10_give 13 = .ok (.getfield 23, 3) := by decide +kernel
theorem dX10_give_16 : decode cX10_give 16 = .ok (.iadd, 1) := by decide +kernel
theorem dX10_give_17 : decode cX10_give 17 = .ok (.ireturn, 1) := by decide +kernel
theorem dX11_init_0 : decode cX11_init 0 = .ok (.aload_n 0, 1) := by decide +kernel
theorem dX11_init_1 : decode cX11_init 1 = .ok (.invokespecial 1, 3) := by decide +kernel
theorem dX11_init_4 : decode cX11_init 4 = .ok (.aload_n 0, 1) := by decide +kernel
theorem dX11_init_5 : decode cX11_init 5 = .ok (.new 7, 3) := by decide +kernel
theorem dX11_init_8 : decode cX11_init 8 = .ok (.dup, 1) := by decide +kernel
theorem dX11_init_9 : decode cX11_init 9 = .ok (.invokespecial 9, 3) := by decide +kernel
theorem dX11_init_12 : decode cX11_init 12 = .ok (.putfield 10, 3) := by decide +kernel
theorem dX11_init_15 : decode cX11_init 15 = .ok (.aload_n 0, 1) := by decide +kernel
theorem dX11_init_16 : decode cX11_init 16 = .ok (.new 7, 3) := by decide +kernel
theorem dX11_init_19 : decode cX11_init 19 = .ok (.dup, 1) := by decide +kernel
theorem dX11_init_20 : decode cX11_init 20 = .ok (.invokespecial 9, 3) := by decide +kernel
theorem dX11_init_23 : decode cX11_init 23 = .ok (.putfield 16, 3) := by decide +kernel
theorem dX11_init_26 : decode cX11_init 26 = .ok (.aload_n 0, 1) := by decide +kernel
theorem dX11_init_27 : decode cX11_init 27 = .ok (.new 19, 3) := by decide +kernel
theorem dX11_init_30 : decode cX11_init 30 = .ok (.dup, 1) := by decide +kernel
theorem dX11_init_31 : decode cX11_init 31 = .ok (.aload_n 0, 1) := by decide +kernel
theorem dX11_init_32 : decode cX11_init 32 = .ok (.getfield 10, 3) := by decide +kernel
theorem dX11_init_35 : decode cX11_init 35 = .ok (.invokespecial 21, 3) := by decide +kernel
theorem dX11_init_38 : decode cX11_init 38 = .ok (.putfield 24, 3) := by decide +kernel
theorem dX11_init_41 : decode cX11_init 41 = .ok (.aload_n 0, 1) := by decide +kernel
theorem dX11_init_42 : decode cX11_init 42 = .ok (.iconst 0, 1) := by decide +kernel
theorem dX11_init_43 : decode cX11_init 43 = .ok (.putfield 28, 3) := by decide +kernel
theorem dX11_init_46 : decode cX11_init 46 = .ok (.aload_n 0, 1) := by decide +kernel
theorem dX11_init_47 : decode cX11_init 47 = .ok (.iconst 0, 1) := by decide +kernel
theorem dX11_init_48 : decode cX11_init 48 = .ok (.putfield 32, 3) := by decide +kernel
theorem dX11_init_51 : decode cX11_init 51 = .ok (.aload_n 0, 1) := by decide +kernel
theorem dX11_init_52 : decode cX11_init 52 = .ok (.iconst 0, 1) := by decide +kernel
theorem dX11_init_53 : decode cX11_init 53 = .ok (.putfield 36, 3) := by decide +kernel
theorem dX11_init_56 : decode cX11_init 56 = .ok (.aload_n 0, 1) := by decide +kernel
theorem dX11_init_57 : decode cX11_init 57 = .ok (.new 39, 3) := by decide +kernel
theorem dX11_init_60 : decode cX11_init 60 = .ok (.dup, 1) := by decide +kernel
theorem dX11_init_61 : decode cX11_init 61 = .ok (.iconst 0, 1) := by decide +kernel
theorem dX11_init_62 : decode cX11_init 62 = .ok (.iconst 0, 1) := by decide +kernel
theorem dX11_init_63 : decode cX11_init 63 = .ok (.iconst 0, 1) := by decide +kernel
theorem dX11_init_64 : decode cX11_init 64 = .ok (.invokespecial 41, 3) := by decide +kernel
theorem dX11_init_67 : decode cX11_init 67 = .ok (.putfield 44, 3) := by decide +kernel
theorem dX11_init_70 : decode cX11_init 70 = .ok (.aload_n 0, 1) := by decide +kernel
theorem dX11_init_71 : decode cX11_init 71 = .ok (.aload_n 0, 1) := by decide +kernel
theorem dX11_init_72 : decode cX11_init 72 = .ok (.getfield 44, 3) := by decide +kernel
theorem dX11_init_75 : decode cX11_init 75 = .ok (.putfield 48, 3) := by decide +kernel
theorem dX11_init_78 : decode cX11_init 78 = .ok (.aload_n 0, 1) := by decide +kernel
theorem dX11_init_79 : decode cX11_init 79 = .ok (.bipush 10, 2) := by decide +kernel
theorem dX11_init_81 : decode cX11_init 81 = .ok (.newarray .int, 2) := by decide +kernel
theorem dX11_init_83 : decode cX11_init 83 = .ok (.putfield 51, 3) := by decide +kernel
theorem dX11_init_86 : decode cX11_init 86 = .ok (.aload_n 0, 1) := by decide +kernel
theorem dX11_init_87 : decode cX11_init 87 = .ok (.bipush 10, 2) := by decide +kernel
theorem dX11_init_89 : decode cX11_init 89 = .ok (.newarray .int, 2) := by decide +kernel
theorem dX11_init_91 : decode cX11_init 91 = .ok (.putfield 55, 3) := by decide +kernel
theorem dX11_init_94 : decode cX11_init 94 = .ok (.aload_n 0, 1) := by decide +kernel
theorem dX11_init_95 : decode cX11_init 95 = .ok (.iconst 0, 1) := by decide +kernel
theorem dX11_init_96 : decode cX11_init 96 = .ok (.putfield 58, 3) := by decide +kernel
theorem dX11_init_99 : decode cX11_init 99 = .ok (.aload_n 0, 1) := by decide +kernel
theorem dX11_init_100 : decode cX11_init 100 = .ok (.bipush 51, 2) := by decide +kernel
theorem dX11_init_102 : decode cX11_init 102 = .ok (.newarray .int, 2) := by decide +kernel
theorem dX11_init_104 : decode cX11_init 104 = .ok (.putfield 61, 3) := by decide +kernel
theorem dX11_init_107 : decode cX11_init 107 = .ok (.aload_n 0, 1) := by decide +kernel
theorem dX11_init_108 : decode cX11_init 108 = .ok (.iconst 4, 1) := by decide +kernel
theorem dX11_init_109 : decode cX11_init 109 = .ok (.bipush 40, 2) := by decide +kernel
theorem dX11_init_111 : decode cX11_init 111 = .ok (.multianewarray 64 2, 4) := by decide +kernel
theorem dX11_init_115 : decode cX11_init 115 = .ok (.putfield 66, 3) := by decide +kernel
theorem dX11_init_118 : decode cX11_init 118 = .ok (.aload_n 0, 1) := by decide +kernel
theorem dX11_init_119 : decode cX11_init 119 = .ok (.iconst 4, 1) := by decide +kernel
theorem dX11_init_120 : decode cX11_init 120 = .ok (.newarray .int, 2) := by decide +kernel
theorem dX11_init_122 : decode cX11_init 122 = .ok (.dup, 1) := by decide +kernel
theorem dX11_init_123 : decode cX11_init 123 = .ok (.iconst 0, 1) := by decide +kernel
theorem dX11_init_124 : decode cX11_init 124 = .ok (.iconst (-1), 1) := by decide +kernel
theorem dX11_init_125 : decode cX11_init 125 = .ok (.iastore, 1) := by decide +kernel
theorem dX11_init_126 : decode cX11_init 126 = .ok (.dup, 1) := by decide +kernel
theorem dX11_init_127 : decode cX11_init 127 = .ok (.iconst 1, 1) := by decide +kernel
theorem dX11_init_128 : decode cX11_init 128 = .ok (.iconst (-1), 1) := by decide +kernel
theorem dX11_init_129 : decode cX11_init 129 = .ok (.iastore, 1) := by decide +kernel
theorem dX11_init_130 : decode cX11_init 130 = .ok (.dup, 1) := by decide +kernel
theorem dX11_init_131 : decode cX11_init 131 = .ok (.iconst 2, 1) := by decide +kernel
theorem dX11_init_132 : decode cX11_init 132 = .ok (.iconst (-1), 1) := by decide +kernel
theorem dX11_init_133 : decode cX11_init 133 = .ok (.iastore, 1) := by decide +kernel
theorem dX11_init_134 : decode cX11_init 134 = .ok (.dup, 1) := by decide +kernel
theorem dX11_init_135 : decode cX11_init 135 = .ok (.iconst 3, 1) := by decide +kernel
theorem dX11_init_136 : decode cX11_init 136 = .ok (.iconst (-1), 1) := by decide +kernel
theorem dX11_init_137 : decode cX11_init 137 = .ok (.iastore, 1) := by decide +kernel
theorem dX11_init_138 : decode cX11_init 138 = .ok (.putfield 69, 3) := by decide +kernel
theorem dX11_init_141 : decode cX11_init 141 = .ok (.aload_n 0, 1) := by decide +kernel
theorem dX11_init_142 : decode cX11_init 142 = .ok (.iconst 4, 1) := by decide +kernel
theorem dX11_init_143 : decode cX11_init 143 = .ok (.newarray .int, 2) := by decide +kernel
theorem dX11_init_145 : decode cX11_init 145 = .ok (.putfield 72, 3) := by decide +kernel
theorem dX11_init_148 : decode cX11_init 148 = .ok (.aload_n 0, 1) := by decide +kernel
theorem dX11_init_149 : decode cX11_init 149 = .ok (.bipush 61, 2) := by decide +kernel
theorem dX11_init_151 : decode cX11_init 151 = .ok (.newarray .long, 2) := by decide +kernel
theorem dX11_init_153 : decode cX11_init 153 = .ok (.putfield 75, 3) := by decide +kernel
theorem dX11_init_156 : decode cX11_init 156 = .ok (.return_, 1) := by decide +kernel
theorem dX11_value_0 : decode cX11_value 0 = .ok (.iload_n 1, 1) := by decide +kernel
theorem dX11_value_1 : decode cX11_value 1 = .ok (.ifCond .lt 21, 3) := by decide +kernel
theorem dX11_value_4 : decode cX11_value 4 = .ok (.iload_n 1, 1) := by decide +kernel
theorem dX11_value_5 : decode cX11_value 5 = .ok (.iconst 4, 1) := by decide +kernel
theorem dX11_value_6 : decode cX11_value 6 = .ok (.if_icmp .gt 16, 3) := by decide +kernel
theorem dX11_value_9 : decode cX11_value 9 = .ok (.iload_n 2, 1) := by decide +kernel
theorem dX11_value_10 : decode cX11_value 10 = .ok (.bipush 99, 2) := by decide +kernel
theorem dX11_value_12 : decode cX11_value 12 = .ok (.invokestatic 79, 3) := by decide +kernel
theorem dX11_value_15 : decode cX11_value 15 = .ok (.ifCond .eq 7, 3) := by decide +kernel
theorem dX11_value_18 : decode cX11_value 18 = .ok (.iconst 1, 1) := by decide +kernel
theorem dX11_value_19 : decode cX11_value 19 = .ok (.goto 4, 3) := by decide +kernel
theorem dX11_value_22 : decode cX11_value 22 = .ok (.iconst 0, 1) := by decide +kernel
theorem dX11_value_23 : decode cX11_value 23 = .ok (.istore 4, 2) := by decide +kernel
theorem dX11_value_25 : decode cX11_value 25 = .ok (.iload 4, 2) := by decide +kernel
theorem dX11_value_27 : decode cX11_value 27 = .ok (.ifCond .eq 15, 3) := by decide +kernel
theorem dX11_value_30 : decode cX11_value 30 = .ok (.iload_n 1, 1) := by decide +kernel
theorem dX11_value_31 : decode cX11_value 31 = .ok (.iconst 3, 1) := by decide +kernel
theorem dX11_value_32 : decode cX11_value 32 = .ok (.if_icmp .ne 16, 3) := by decide +kernel
theorem dX11_value_35 : decode cX11_value 35 = .ok (.iload_n 3, 1) := by decide +kernel
theorem dX11_value_36 : decode cX11_value 36 = .ok (.invokestatic 83, 3) := by decide +kernel
theorem dX11_value_39 : decode cX11_value 39 = .ok (.ifCond .ne 9, 3) := by decide +kernel
theorem dX11_value_42 : decode cX11_value 42 = .ok (.aload_n 0, 1) := by decide +kernel
theorem dX11_value_43 : decode cX11_value 43 = .ok (.iconst 1, 1) := by decide +kernel
theorem dX11_value_44 : decode cX11_value 44 = .ok (.invokevirtual 87, 3) := by decide +kernel
theorem dX11_value_47 : decode cX11_value 47 = .ok (.ireturn, 1) := by decide +kernel
theorem dX11_value_48 : decode cX11_value 48 = .ok (.aload_n 0, 1) := by decide +kernel
theorem dX11_value_49 : decode cX11_value 49 = .ok (.getfield 10, 3) := by decide +kernel
theorem dX11_value_52 : decode cX11_value 52 = .ok (.getfield 91, 3) := by decide +kernel
theorem dX11_value_55 : decode cX11_value 55 = .ok (.bipush 10, 2) := by decide +kernel
theorem dX11_value_57 : decode cX11_value 57 = .ok (.if_icmp .lt 9, 3) := by decide +kernel
theorem dX11_value_60 : decode cX11_value 60 = .ok (.aload_n 0, 1) := by decide +kernel
theorem dX11_value_61 : decode cX11_value 61 = .ok (.iconst 2, 1) := by decide +kernel
theorem dX11_value_62 : decode cX11_value 62 = .ok (.invokevirtual 87, 3) := by decide +kernel
theorem dX11_value_65 : decode cX11_value 65 = .ok (.ireturn, 1) := by decide +kernel
theorem dX11_value_66 : decode cX11_value 66 = .ok (.aload_n 0, 1) := by decide +kernel
theorem dX11_value_67 : decode cX11_value 67 = .ok (.getfield 10, 3) := by decide +kernel
theorem dX11_value_70 : decode cX11_value 70 = .ok (.iload_n 1, 1) := by decide +kernel
theorem dX11_value_71 : decode cX11_value 71 = .ok (.iload_n 2, 1) := by decide +kernel
theorem dX11_value_72 : decode cX11_value 72 = .ok (.iload_n 1, 1) := by decide +kernel
theorem dX11_value_73 : decode cX11_value 73 = .ok (.iconst 3, 1) := by decide +kernel
theorem dX11_value_74 : decode cX11_value 74 = .ok (.if_icmp .ne 7, 3) := by decide +kernel
theorem dX11_value_77 : decode cX11_value 77 = .ok (.iload_n 3, 1) := by decide +kernel
theorem dX11_value_78 : decode cX11_value 78 = .ok (.goto 4, 3) := by decide +kernel
theorem dX11_value_81 : decode cX11_value 81 = .ok (.iconst 0, 1) := by decide +kernel
theorem dX11_value_82 : decode cX11_value 82 = .ok (.invokevirtual 94, 3) := by decide +kernel
theorem dX11_value_85 : decode cX11_value 85 = .ok (.aload_n 0, 1) := by decide +kernel
theorem dX11_value_86 : decode cX11_value 86 = .ok (.getfield 24, 3) := by decide +kernel
theorem dX11_value_89 : decode cX11_value 89 = .ok (.invokevirtual 97, 3) := by decide +kernel
theorem dX11_value_92 : decode cX11_value 92 = .ok (.aload_n 0, 1) := by decide +kernel
theorem dX11_value_93 : decode cX11_value 93 = .ok (.aload_n 0, 1) := by decide +kernel
theorem dX11_value_94 : decode cX11_value 94 = .ok (.getfield 10, 3) := by decide +kernel
theorem dX11_value_97 : decode cX11_value 97 = .ok (.getfield 91, 3) := by decide +kernel
theorem dX11_value_100 : decode cX11_value 100 = .ok (.iconst 1, 1) := by decide +kernel
theorem dX11_value_101 : decode cX11_value 101 = .ok (.isub, 1) := by decide +kernel
theorem dX11_value_102 : decode cX11_value 102 = .ok (.invokevirtual 100, 3) := by decide +kernel
theorem dX11_value_105 : decode cX11_value 105 = .ok (.ireturn, 1) := by decide +kernel
theorem dX11_free_0 : decode cX11_free 0 = .ok (.iload_n 1, 1) := by decide +kernel
theorem dX11_free_1 : decode cX11_free 1 = .ok (.invokestatic 103, 3) := by decide +kernel
theorem dX11_free_4 : decode cX11_free 4 = .ok (.ifCond .ne 9, 3) := by decide +kernel
theorem dX11_free_7 : decode cX11_free 7 = .ok (.aload_n 0, 1) := by decide +kernel
theorem dX11_free_8 : decode cX11_free 8 = .ok (.iconst 1, 1) := by decide +kernel
theorem dX11_free_9 : decode cX11_free 9 = .ok (.invokevirtual 87, 3) := by decide +kernel
theorem dX11_free_12 : decode cX11_free 12 = .ok (.ireturn, 1) := by decide +kernel
theorem dX11_free_13 : decode cX11_free 13 = .ok (.aload_n 0, 1) := by decide +kernel
theorem dX11_free_14 : decode cX11_free 14 = .ok (.getfield 10, 3) := by decide +kernel
theorem dX11_free_17 : decode cX11_free 17 = .ok (.getfield 106, 3) := by decide +kernel
theorem dX11_free_20 : decode cX11_free 20 = .ok (.istore_n 3, 1) := by decide +kernel
theorem dX11_free_21 : decode cX11_free 21 = .ok (.aload_n 0, 1) := by decide +kernel
theorem dX11_free_22 : decode cX11_free 22 = .ok (.getfield 10, 3) := by decide +kernel
theorem dX11_free_25 : decode cX11_free 25 = .ok (.iload_n 3, 1) := by decide +kernel
theorem dX11_free_26 : decode cX11_free 26 = .ok (.iload_n 1, 1) := by decide +kernel
theorem dX11_free_27 : decode cX11_free 27 = .ok (.iload_n 2, 1) := by decide +kernel
theorem dX11_free_28 : decode cX11_free 28 = .ok (.invokestatic 109, 3) := by decide +kernel
theorem dX11_free_31 : decode cX11_free 31 = .ok (.putfield 106, 3) := by decide +kernel
theorem dX11_free_34 : decode cX11_free 34 = .ok (.aload_n 0, 1) := by decide +kernel
theorem dX11_free_35 : decode cX11_free 35 = .ok (.getfield 24, 3) := by decide +kernel
theorem dX11_free_38 : decode cX11_free 38 = .ok (.invokevirtual 97, 3) := by decide +kernel
theorem dX11_free_41 : decode cX11_free 41 = .ok (.aload_n 0, 1) := by decide +kernel
theorem dX11_free_42 : decode cX11_free 42 = .ok (.aload_n 0, 1) := by decide +kernel
theorem dX11_free_43 : decode cX11_free 43 = .ok (.getfield 10, 3) := by decide +kernel
theorem dX11_free_46 : decode cX11_free 46 = .ok (.getfield 106, 3) := by decide +kernel
theorem dX11_free_49 : decode cX11_free 49 = .ok (.iload_n 3, 1) := by decide +kernel
theorem dX11_free_50 : decode cX11_free 50 = .ok (.if_icmp .ne 7, 3) := by decide +kernel
theorem dX11_free_53 : decode cX11_free 53 = .ok (.iconst 0, 1) := by decide +kernel
theorem dX11_free_54 : decode cX11_free 54 = .ok (.goto 4, 3) := by decide +kernel
theorem dX11_free_57 : decode cX11_free 57 = .ok (.iconst 1, 1) := by decide +kernel
theorem dX11_free_58 : decode cX11_free 58 = .ok (.invokevirtual 100, 3) := by decide +kernel
theorem dX11_free_61 : decode cX11_free 61 = .ok (.ireturn, 1) := by decide +kernel
theorem dX11_test_0 : decode cX11_test 0 = .ok (.iload_n 1, 1) := by decide +kernel
theorem dX11_test_1 : decode cX11_test 1 = .ok (.ifCond .eq 26, 3) := by decide +kernel
theorem dX11_test_4 : decode cX11_test 4 = .ok (.iload_n 1, 1) := by decide +kernel
theorem dX11_test_5 : decode cX11_test 5 = .ok (.iconst 1, 1) := by decide +kernel
theorem dX11_test_6 : decode cX11_test 6 = .ok (.if_icmp .eq 8, 3) := by decide +kernel
theorem dX11_test_9 : decode cX11_test 9 = .ok (.iload_n 1, 1) := by decide +kernel
theorem dX11_test_10 : decode cX11_test 10 = .ok (.iconst 2, 1) := by decide +kernel
theorem dX11_test_11 : decode cX11_test 11 = .ok (.if_icmp .ne 10, 3) := by decide +kernel
theorem dX11_test_14 : decode cX11_test 14 = .ok (.iload_n 2, 1) := by decide +kernel
theorem dX11_test_15 : decode cX11_test 15 = .ok (.invokestatic 103, 3) := by decide +kernel
theorem dX11_test_18 : decode cX11_test 18 = .ok (.ifCond .ne 9, 3) := by decide +kernel
theorem dX11_test_21 : decode cX11_test 21 = .ok (.aload_n 0, 1) := by decide +kernel
theorem dX11_test_22 : decode cX11_test 22 = .ok (.iconst 1, 1) := by decide +kernel
theorem dX11_test_23 : decode cX11_test 23 = .ok (.invokevirtual 87, 3) := by decide +kernel
theorem dX11_test_26 : decode cX11_test 26 = .ok (.ireturn, 1) := by decide +kernel
theorem dX11_test_27 : decode cX11_test 27 = .ok (.aload_n 0, 1) := by decide +kernel
theorem dX11_test_28 : decode cX11_test 28 = .ok (.iload_n 1, 1) := by decide +kernel
theorem dX11_test_29 : decode cX11_test 29 = .ok (.ifCond .ne 10, 3) := by decide +kernel
theorem dX11_test_32 : decode cX11_test 32 = .ok (.aload_n 0, 1) := by decide +kernel
theorem dX11_test_33 : decode cX11_test 33 = .ok (.getfield 44, 3) := by decide +kernel
theorem dX11_test_36 : decode cX11_test 36 = .ok (.goto 13, 3) := by decide +kernel
theorem dX11_test_39 : decode cX11_test 39 = .ok (.new 39, 3) := by decide +kernel
theorem dX11_test_42 : decode cX11_test 42 = .ok (.dup, 1) := by decide +kernel
theorem dX11_test_43 : decode cX11_test 43 = .ok (.iload_n 1, 1) := by decide +kernel
theorem dX11_test_44 : decode cX11_test 44 = .ok (.iload_n 2, 1) := by decide +kernel
theorem dX11_test_45 : decode cX11_test 45 = .ok (.iconst 0, 1) := by decide +kernel
theorem dX11_test_46 : decode cX11_test 46 = .ok (.invokespecial 41, 3) := by decide +kernel
theorem dX11_test_49 : decode cX11_test 49 = .ok (.putfield 48, 3) := by decide +kernel
theorem dX11_test_52 : decode cX11_test 52 = .ok (.aload_n 0, 1) := by decide +kernel
theorem dX11_test_53 : decode cX11_test 53 = .ok (.iconst 1, 1) := by decide +kernel
theorem dX11_test_54 : decode cX11_test 54 = .ok (.invokevirtual 100, 3) := by decide +kernel
theorem dX11_test_57 : decode cX11_test 57 = .ok (.ireturn, 1) := by decide +kernel
theorem dX11_testValue_0 : decode cX11_testValue 0 = .ok (.aload_n 0, 1) := by decide +kernel
theorem dX11_testValue_1 : decode cX11_testValue 1 = .ok (.iload_n 1, 1) := by decide +kernel
theorem dX11_testValue_2 : decode cX11_testValue 2 = .ok (.invokevirtual 113, 3) := by decide +kernel
theorem dX11_testValue_5 : decode cX11_testValue 5 = .ok (.ifCond .eq 13, 3) := by decide +kernel
theorem dX11_testValue_8 : decode cX11_testValue 8 = .ok (.iload_n 3, 1) := by decide +kernel
theorem dX11_testValue_9 : decode cX11_testValue 9 = .ok (.sipush 1000, 3) := by decide +kernel
theorem dX11_testValue_12 : decode cX11_testValue 12 = .ok (.invokestatic 79, 3) := by decide +kernel
theorem dX11_testValue_15 : decode cX11_testValue 15 = .ok (.ifCond .ne 9, 3) := by decide +kernel
theorem dX11_testValue_18 : decode cX11_testValue 18 = .ok (.aload_n 0, 1) := by decide +kernel
theorem dX11_testValue_19 : decode cX11_testValue 19 = .ok (.iconst 1, 1) := by decide +kernel
theorem dX11_testValue_20 : decode cX11_testValue 20 = .ok (.invokevirtual 87, 3) := by decide +kernel
theorem dX11_testValue_23 : decode cX11_testValue 23 = .ok (.ireturn, 1) := by decide +kernel
theorem dX11_testValue_24 : decode cX11_testValue 24 = .ok (.aload_n 0, 1) := by decide +kernel
theorem dX11_testValue_25 : decode cX11_testValue 25 = .ok (.new 39, 3) := by decide +kernel
theorem dX11_testValue_28 : decode cX11_testValue 28 = .ok (.dup, 1) := by decide +kernel
theorem dX11_testValue_29 : decode cX11_testValue 29 = .ok (.iload_n 2, 1) := by decide +kernel
theorem dX11_testValue_30 : decode cX11_testValue 30 = .ok (.ifCond .eq 7, 3) := by decide +kernel
theorem dX11_testValue_33 : decode cX11_testValue 33 = .ok (.iconst 4, 1) := by decide +kernel
theorem dX11_testValue_34 : decode cX11_testValue 34 = .ok (.goto 4, 3) := by decide +kernel
theorem dX11_testValue_37 : decode cX11_testValue 37 = .ok (.iconst 3, 1) := by decide +kernel
theorem dX11_testValue_38 : decode cX11_testValue 38 = .ok (.iload_n 1, 1) := by decide +kernel
theorem dX11_testValue_39 : decode cX11_testValue 39 = .ok (.iload_n 3, 1) := by decide +kernel
theorem dX11_testValue_40 : decode cX11_testValue 40 = .ok (.invokespecial 41, 3) := by decide +kernel
theorem dX11_testValue_43 : decode cX11_testValue 43 = .ok (.putfield 48, 3) := by decide +kernel
theorem dX11_testValue_46 : decode cX11_testValue 46 = .ok (.aload_n 0, 1) := by decide +kernel
theorem dX11_testValue_47 : decode cX11_testValue 47 = .ok (.iconst 1, 1) := by decide +kernel
theorem dX11_testValue_48 : decode cX11_testValue 48 = .ok (.invokevirtual 100, 3) := by decide +kernel
theorem dX11_testValue_51 : decode cX11_testValue 51 = .ok (.ireturn, 1) := by decide +kernel
theorem dX11_rule_0 : decode cX11_rule 0 = .ok (.iload_n 1, 1) := by decide +kernel
theorem dX11_rule_1 : decode cX11_rule 1 = .ok (.ifCond .lt 28, 3) := by decide +kernel
theorem dX11_rule_4 : decode cX11_rule 4 = .ok (.iload_n 1, 1) := by decide +kernel
theorem dX11_rule_5 : decode cX11_rule 5 = .ok (.iconst 1, 1) := by decide +kernel
theorem dX11_rule_6 : decode cX11_rule 6 = .ok (.if_icmp .eq 23, 3) := by decide +kernel
theorem dX11_rule_9 : decode cX11_rule 9 = .ok (.iload_n 1, 1) := by decide +kernel
theorem dX11_rule_10 : decode cX11_rule 10 = .ok (.bipush 7, 2) := by decide +kernel
theorem dX11_rule_12 : decode cX11_rule 12 = .ok (.if_icmp .gt 17, 3) := by decide +kernel
theorem dX11_rule_15 : decode cX11_rule 15 = .ok (.aload_n 0, 1) := by decide +kernel
theorem dX11_rule_16 : decode cX11_rule 16 = .ok (.iload_n 1, 1) := by decide +kernel
theorem dX11_rule_17 : decode cX11_rule 17 = .ok (.iload_n 2, 1) := by decide +kernel
theorem dX11_rule_18 : decode cX11_rule 18 = .ok (.iload_n 3, 1) := by decide +kernel
theorem dX11_rule_19 : decode cX11_rule 19 = .ok (.iload 4, 2) := by decide +kernel
theorem dX11_rule_21 : decode cX11_rule 21 = .ok (.iload 5, 2) := by decide +kernel
theorem dX11_rule_23 : decode cX11_rule 23 = .ok (.invokevirtual 116, 3) := by decide +kernel
theorem dX11_rule_26 : decode cX11_rule 26 = .ok (.ifCond .ne 9, 3) := by decide +kernel
theorem dX11_rule_29 : decode cX11_rule 29 = .ok (.aload_n 0, 1) := by decide +kernel
theorem dX11_rule_30 : decode cX11_rule 30 = .ok (.iconst 1, 1) := by decide +kernel
theorem dX11_rule_31 : decode cX11_rule 31 = .ok (.invokevirtual 87, 3) := by decide +kernel
theorem dX11_rule_34 : decode cX11_rule 34 = .ok (.ireturn, 1) := by decide +kernel
theorem dX11_rule_35 : decode cX11_rule 35 = .ok (.aload_n 0, 1) := by decide +kernel
theorem dX11_rule_36 : decode cX11_rule 36 = .ok (.aload_n 0, 1) := by decide +kernel
theorem dX11_rule_37 : decode cX11_rule 37 = .ok (.iload_n 1, 1) := by decide +kernel
theorem dX11_rule_38 : decode cX11_rule 38 = .ok (.iload_n 2, 1) := by decide +kernel
theorem dX11_rule_39 : decode cX11_rule 39 = .ok (.iload_n 3, 1) := by decide +kernel
theorem dX11_rule_40 : decode cX11_rule 40 = .ok (.iload 4, 2) := by decide +kernel
theorem dX11_rule_42 : decode cX11_rule 42 = .ok (.iload 5, 2) := by decide +kernel
theorem dX11_rule_44 : decode cX11_rule 44 = .ok (.invokevirtual 120, 3) := by decide +kernel
theorem dX11_rule_47 : decode cX11_rule 47 = .ok (.invokevirtual 124, 3) := by decide +kernel
theorem dX11_rule_50 : decode cX11_rule 50 = .ok (.ireturn, 1) := by decide +kernel
theorem dX11_typed_0 : decode cX11_typed 0 = .ok (.iload_n 1, 1) := by decide +kernel
theorem dX11_typed_1 : decode cX11_typed 1 = .ok (.invokestatic 128, 3) := by decide +kernel
theorem dX11_typed_4 : decode cX11_typed 4 = .ok (.ifCond .eq 17, 3) := by decide +kernel
theorem dX11_typed_7 : decode cX11_typed 7 = .ok (.aload_n 0, 1) := by decide +kernel
theorem dX11_typed_8 : decode cX11_typed 8 = .ok (.iconst 1, 1) := by decide +kernel
theorem dX11_typed_9 : decode cX11_typed 9 = .ok (.iload_n 2, 1) := by decide +kernel
theorem dX11_typed_10 : decode cX11_typed 10 = .ok (.iload_n 3, 1) := by decide +kernel
theorem dX11_typed_11 : decode cX11_typed 11 = .ok (.iload 4, 2) := by decide +kernel
theorem dX11_typed_13 : decode cX11_typed 13 = .ok (.iload 5, 2) := by decide +kernel
theorem dX11_typed_15 : decode cX11_typed 15 = .ok (.invokevirtual 116, 3) := by decide +kernel
theorem dX11_typed_18 : decode cX11_typed 18 = .ok (.ifCond .ne 9, 3) := by decide +kernel
theorem dX11_typed_21 : decode cX11_typed 21 = .ok (.aload_n 0, 1) := by decide +kernel
theorem dX11_typed_22 : decode cX11_typed 22 = .ok (.iconst 1, 1) := by decide +kernel
theorem dX11_typed_23 : decode cX11_typed 23 = .ok (.invokevirtual 87, 3) := by decide +kernel
theorem dX11_typed_26 : decode cX11_typed 26 = .ok (.ireturn, 1) := by decide +kernel
theorem dX11_typed_27 : decode cX11_typed 27 = .ok (.aload_n 0, 1) := by decide +kernel
theorem dX11_typed_28 : decode cX11_typed 28 = .ok (.new 131, 3) := by decide +kernel
theorem dX11_typed_31 : decode cX11_typed 31 = .ok (.dup, 1) := by decide +kernel
theorem dX11_typed_32 : decode cX11_typed 32 = .ok (.aload_n 0, 1) := by decide +kernel
theorem dX11_typed_33 : decode cX11_typed 33 = .ok (.getfield 10, 3) := by decide +kernel
theorem dX11_typed_36 : decode cX11_typed 36 = .ok (.getfield 133, 3) := by decide +kernel
theorem dX11_typed_39 : decode cX11_typed 39 = .ok (.aload_n 0, 1) := by decide +kernel
theorem dX11_typed_40 : decode cX11_typed 40 = .ok (.getfield 48, 3) := by decide +kernel
theorem dX11_typed_43 : decode cX11_typed 43 = .ok (.iload_n 1, 1) := by decide +kernel
theorem dX11_typed_44 : decode cX11_typed 44 = .ok (.iload_n 2, 1) := by decide +kernel
theorem dX11_typed_45 : decode cX11_typed 45 = .ok (.iload_n 3, 1) := by decide +kernel
theorem dX11_typed_46 : decode cX11_typed 46 = .ok (.iload 4, 2) := by decide +kernel
theorem dX11_typed_48 : decode cX11_typed 48 = .ok (.iload 5, 2) := by decide +kernel
theorem dX11_typed_50 : decode cX11_typed 50 = .ok (.invokespecial 136, 3) := by decide +kernel
theorem dX11_typed_53 : decode cX11_typed 53 = .ok (.invokevirtual 124, 3) := by decide +kernel
theorem dX11_typed_56 : decode cX11_typed 56 = .ok (.ireturn, 1) := by decide +kernel
theorem dX11_stack_0 : decode cX11_stack 0 = .ok (.iload_n 1, 1) := by decide +kernel
theorem dX11_stack_1 : decode cX11_stack 1 = .ok (.invokestatic 128, 3) := by decide +kernel
theorem dX11_stack_4 : decode cX11_stack 4 = .ok (.ifCond .ne 9, 3) := by decide +kernel
theorem dX11_stack_7 : decode cX11_stack 7 = .ok (.aload_n 0, 1) := by decide +kernel
theorem dX11_stack_8 : decode cX11_stack 8 = .ok (.iconst 1, 1) := by decide +kernel
theorem dX11_stack_9 : decode cX11_stack 9 = .ok (.invokevirtual 87, 3) := by decide +kernel
theorem dX11_stack_12 : decode cX11_stack 12 = .ok (.ireturn, 1) := by decide +kernel
theorem dX11_stack_13 : decode cX11_stack 13 = .ok (.aload_n 0, 1) := by decide +kernel
theorem dX11_stack_14 : decode cX11_stack 14 = .ok (.getfield 10, 3) := by decide +kernel
theorem dX11_stack_17 : decode cX11_stack 17 = .ok (.getfield 139, 3) := by decide +kernel
theorem dX11_stack_20 : decode cX11_stack 20 = .ok (.istore_n 3, 1) := by decide +kernel
theorem dX11_stack_21 : decode cX11_stack 21 = .ok (.aload_n 0, 1) := by decide +kernel
theorem dX11_stack_22 : decode cX11_stack 22 = .ok (.getfield 10, 3) := by decide +kernel
theorem dX11_stack_25 : decode cX11_stack 25 = .ok (.iload_n 3, 1) := by decide +kernel
theorem dX11_stack_26 : decode cX11_stack 26 = .ok (.iload_n 1, 1) := by decide +kernel
theorem dX11_stack_27 : decode cX11_stack 27 = .ok (.iload_n 2, 1) := by decide +kernel
theorem dX11_stack_28 : decode cX11_stack 28 = .ok (.invokestatic 109, 3) := by decide +kernel
theorem dX11_stack_31 : decode cX11_stack 31 = .ok (.putfield 139, 3) := by decide +kernel
theorem dX11_stack_34 : decode cX11_stack 34 = .ok (.aload_n 0, 1) := by decide +kernel
theorem dX11_stack_35 : decode cX11_stack 35 = .ok (.getfield 24, 3) := by decide +kernel
theorem dX11_stack_38 : decode cX11_stack 38 = .ok (.invokevirtual 97, 3) := by decide +kernel
theorem dX11_stack_41 : decode cX11_stack 41 = .ok (.aload_n 0, 1) := by decide +kernel
theorem dX11_stack_42 : decode cX11_stack 42 = .ok (.aload_n 0, 1) := by decide +kernel
theorem dX11_stack_43 : decode cX11_stack 43 = .ok (.getfield 10, 3) := by decide +kernel
theorem dX11_stack_46 : decode cX11_stack 46 = .ok (.getfield 139, 3) := by decide +kernel
theorem dX11_stack_49 : decode cX11_stack 49 = .ok (.iload_n 3, 1) := by decide +kernel
theorem dX11_stack_50 : decode cX11_stack 50 = .ok (.if_icmp .ne 7, 3) := by decide +kernel
theorem dX11_stack_53 : decode cX11_stack 53 = .ok (.iconst 0, 1) := by decide +kernel
theorem dX11_stack_54 : decode cX11_stack 54 = .ok (.goto 4, 3) := by decide +kernel
theorem dX11_stack_57 : decode cX11_stack 57 = .ok (.iconst 1, 1) := by decide +kernel
theorem dX11_stack_58 : decode cX11_stack 58 = .ok (.invokevirtual 100, 3) := by decide +kernel
theorem dX11_stack_61 : decode cX11_stack 61 = .ok (.ireturn, 1) := by decide +kernel
theorem dX11_make_0 : decode cX11_make 0 = .ok (.iload_n 1, 1) := by decide +kernel
theorem dX11_make_1 : decode cX11_make 1 = .ok (.invokestatic 103, 3) := by decide +kernel
theorem dX11_make_4 : decode cX11_make 4 = .ok (.ifCond .ne 9, 3) := by decide +kernel
theorem dX11_make_7 : decode cX11_make 7 = .ok (.aload_n 0, 1) := by decide +kernel
theorem dX11_make_8 : decode cX11_make 8 = .ok (.iconst 1, 1) := by decide +kernel
theorem dX11_make_9 : decode cX11_make 9 = .ok (.invokevirtual 87, 3) := by decide +kernel
theorem dX11_make_12 : decode cX11_make 12 = .ok (.ireturn, 1) := by decide +kernel
theorem dX11_make_13 : decode cX11_make 13 = .ok (.aload_n 0, 1) := by decide +kernel
theorem dX11_make_14 : decode cX11_make 14 = .ok (.getfield 10, 3) := by decide +kernel
theorem dX11_make_17 : decode cX11_make 17 = .ok (.getfield 142, 3) := by decide +kernel
theorem dX11_make_20 : decode cX11_make 20 = .ok (.iload_n 1, 1) := by decide +kernel
theorem dX11_make_21 : decode cX11_make 21 = .ok (.invokestatic 145, 3) := by decide +kernel
theorem dX11_make_24 : decode cX11_make 24 = .ok (.iload_n 2, 1) := by decide +kernel
theorem dX11_make_25 : decode cX11_make 25 = .ok (.if_icmp .ne 9, 3) := by decide +kernel
theorem dX11_make_28 : decode cX11_make 28 = .ok (.aload_n 0, 1) := by decide +kernel
theorem dX11_make_29 : decode cX11_make 29 = .ok (.iconst 3, 1) := by decide +kernel
theorem dX11_make_30 : decode cX11_make 30 = .ok (.invokevirtual 87, 3) := by decide +kernel
theorem dX11_make_33 : decode cX11_make 33 = .ok (.ireturn, 1) := by decide +kernel
theorem dX11_make_34 : decode cX11_make 34 = .ok (.aload_n 0, 1) := by decide +kernel
theorem dX11_make_35 : decode cX11_make 35 = .ok (.getfield 10, 3) := by decide +kernel
theorem dX11_make_38 : decode cX11_make 38 = .ok (.aload_n 0, 1) := by decide +kernel
theorem dX11_make_39 : decode cX11_make 39 = .ok (.getfield 10, 3) := by decide +kernel
theorem dX11_make_42 : decode cX11_make 42 = .ok (.getfield 142, 3) := by decide +kernel
theorem dX11_make_45 : decode cX11_make 45 = .ok (.iload_n 1, 1) := by decide +kernel
theorem dX11_make_46 : decode cX11_make 46 = .ok (.iload_n 2, 1) := by decide +kernel
theorem dX11_make_47 : decode cX11_make 47 = .ok (.invokestatic 109, 3) := by decide +kernel
theorem dX11_make_50 : decode cX11_make 50 = .ok (.putfield 142, 3) := by decide +kernel
theorem dX11_make_53 : decode cX11_make 53 = .ok (.aload_n 0, 1) := by decide +kernel
theorem dX11_make_54 : decode cX11_make 54 = .ok (.aload_n 0, 1) := by decide +kernel
theorem dX11_make_55 : decode cX11_make 55 = .ok (.getfield 10, 3) := by decide +kernel
theorem dX11_make_58 : decode cX11_make 58 = .ok (.getfield 142, 3) := by decide +kernel
theorem dX11_make_61 : decode cX11_make 61 = .ok (.invokestatic 148, 3) := by decide +kernel
theorem dX11_make_64 : decode cX11_make 64 = .ok (.invokevirtual 100, 3) := by decide +kernel
theorem dX11_make_67 : decode cX11_make 67 = .ok (.ireturn, 1) := by decide +kernel
theorem dX11_spell_0 : decode cX11_spell 0 = .ok (.aload_n 0, 1) := by decide +kernel
theorem dX11_spell_1 : decode cX11_spell 1 = .ok (.iload_n 1, 1) := by decide +kernel
theorem dX11_spell_2 : decode cX11_spell 2 = .ok (.invokevirtual 113, 3) := by decide +kernel
theorem dX11_spell_5 : decode cX11_spell 5 = .ok (.ifCond .eq 23, 3) := by decide +kernel
theorem dX11_spell_8 : decode cX11_spell 8 = .ok (.iload_n 2, 1) := by decide +kernel
theorem dX11_spell_9 : decode cX11_spell 9 = .ok (.bipush 20, 2) := by decide +kernel
theorem dX11_spell_11 : decode cX11_spell 11 = .ok (.invokestatic 79, 3) := by decide +kernel
theorem dX11_spell_14 : decode cX11_spell 14 = .ok (.ifCond .eq 14, 3) := by decide +kernel
theorem dX11_spell_17 : decode cX11_spell 17 = .ok (.iload_n 3, 1) := by decide +kernel
theorem dX11_spell_18 : decode cX11_spell 18 = .ok (.iconst 1, 1) := by decide +kernel
theorem dX11_spell_19 : decode cX11_spell 19 = .ok (.if_icmp .lt 9, 3) := by decide +kernel
theorem dX11_spell_22 : decode cX11_spell 22 = .ok (.iload_n 3, 1) := by decide +kernel
theorem dX11_spell_23 : decode cX11_spell 23 = .ok (.bipush 20, 2) := by decide +kernel
theorem dX11_spell_25 : decode cX11_spell 25 = .ok (.if_icmp .le 9, 3) := by decide +kernel
theorem dX11_spell_28 : decode cX11_spell 28 = .ok (.aload_n 0, 1) := by decide +kernel
theorem dX11_spell_29 : decode cX11_spell 29 = .ok (.iconst 1, 1) := by decide +kernel
theorem dX11_spell_30 : decode cX11_spell 30 = .ok (.invokevirtual 87, 3) := by decide +kernel
theorem dX11_spell_33 : decode cX11_spell 33 = .ok (.ireturn, 1) := by decide +kernel
theorem dX11_spell_34 : decode cX11_spell 34 = .ok (.aload_n 0, 1) := by decide +kernel
theorem dX11_spell_35 : decode cX11_spell 35 = .ok (.getfield 10, 3) := by decide +kernel
theorem dX11_spell_38 : decode cX11_spell 38 = .ok (.getfield 153, 3) := by decide +kernel
theorem dX11_spell_41 : decode cX11_spell 41 = .ok (.bipush 10, 2) := by decide +kernel
theorem dX11_spell_43 : decode cX11_spell 43 = .ok (.if_icmp .lt 9, 3) := by decide +kernel
theorem dX11_spell_46 : decode cX11_spell 46 = .ok (.aload_n 0, 1) := by decide +kernel
theorem dX11_spell_47 : decode cX11_spell 47 = .ok (.iconst 2, 1) := by decide +kernel
theorem dX11_spell_48 : decode cX11_spell 48 = .ok (.invokevirtual 87, 3) := by decide +kernel
theorem dX11_spell_51 : decode cX11_spell 51 = .ok (.ireturn, 1) := by decide +kernel
theorem dX11_spell_52 : decode cX11_spell 52 = .ok (.aload_n 0, 1) := by decide +kernel
theorem dX11_spell_53 : decode cX11_spell 53 = .ok (.getfield 10, 3) := by decide +kernel
theorem dX11_spell_56 : decode cX11_spell 56 = .ok (.iload_n 1, 1) := by decide +kernel
theorem dX11_spell_57 : decode cX11_spell 57 = .ok (.iload_n 2, 1) := by decide +kernel
theorem dX11_spell_58 : decode cX11_spell 58 = .ok (.aload_n 0, 1) := by decide +kernel
theorem dX11_spell_59 : decode cX11_spell 59 = .ok (.getfield 10, 3) := by decide +kernel
theorem dX11_spell_62 : decode cX11_spell 62 = .ok (.getfield 156, 3) := by decide +kernel
theorem dX11_spell_65 : decode cX11_spell 65 = .ok (.iload_n 3, 1) := by decide +kernel
theorem dX11_spell_66 : decode cX11_spell 66 = .ok (.iadd, 1) := by decide +kernel
theorem dX11_spell_67 : decode cX11_spell 67 = .ok (.invokevirtual 159, 3) := by decide +kernel
theorem dX11_spell_70 : decode cX11_spell 70 = .ok (.aload_n 0, 1) := by decide +kernel
theorem dX11_spell_71 : decode cX11_spell 71 = .ok (.getfield 24, 3) := by decide +kernel
theorem dX11_spell_74 : decode cX11_spell 74 = .ok (.invokevirtual 97, 3) := by decide +kernel
theorem dX11_spell_77 : decode cX11_spell 77 = .ok (.aload_n 0, 1) := by decide +kernel
theorem dX11_spell_78 : decode cX11_spell 78 = .ok (.aload_n 0, 1) := by decide +kernel
theorem dX11_spell_79 : decode cX11_spell 79 = .ok (.getfield 10, 3) := by decide +kernel
theorem dX11_spell_82 : decode cX11_spell 82 = .ok (.getfield 153, 3) := by decide +kernel
theorem dX11_spell_85 : decode cX11_spell 85 = .ok (.invokevirtual 100, 3) := by decide +kernel
theorem dX11_spell_88 : decode cX11_spell 88 = .ok (.ireturn, 1) := by decide +kernel
theorem dX11_turn_0 : decode cX11_turn 0 = .ok (.aload_n 0, 1) := by decide +kernel
theorem dX11_turn_1 : decode cX11_turn 1 = .ok (.getfield 10, 3) := by decide +kernel
theorem dX11_turn_4 : decode cX11_turn 4 = .ok (.getfield 156, 3) := by decide +kernel
theorem dX11_turn_7 : decode cX11_turn 7 = .ok (.sipush 1000, 3) := by decide +kernel
theorem dX11_turn_10 : decode cX11_turn 10 = .ok (.if_icmp .lt 9, 3) := by decide +kernel
theorem dX11_turn_13 : decode cX11_turn 13 = .ok (.aload_n 0, 1) := by decide +kernel
theorem dX11_turn_14 : decode cX11_turn 14 = .ok (.iconst 2, 1) := by decide +kernel
theorem dX11_turn_15 : decode cX11_turn 15 = .ok (.invokevirtual 87, 3) := by decide +kernel
theorem dX11_turn_18 : decode cX11_turn 18 = .ok (.ireturn, 1) := by decide +kernel
theorem dX11_turn_19 : decode cX11_turn 19 = .ok (.aload_n 0, 1) := by decide +kernel
theorem dX11_turn_20 : decode cX11_turn 20 = .ok (.getfield 10, 3) := by decide +kernel
theorem dX11_turn_23 : decode cX11_turn 23 = .ok (.invokevirtual 162, 3) := by decide +kernel
theorem dX11_turn_26 : decode cX11_turn 26 = .ok (.istore_n 1, 1) := by decide +kernel
theorem dX11_turn_27 : decode cX11_turn 27 = .ok (.aload_n 0, 1) := by decide +kernel
theorem dX11_turn_28 : decode cX11_turn 28 = .ok (.getfield 10, 3) := by decide +kernel
theorem dX11_turn_31 : decode cX11_turn 31 = .ok (.dup, 1) := by decide +kernel
theorem dX11_turn_32 : decode cX11_turn 32 = .ok (.getfield 156, 3) := by decide +kernel
theorem dX11_turn_35 : decode cX11_turn 35 = .ok (.iconst 1, 1) := by decide +kernel
theorem dX11_turn_36 : decode cX11_turn 36 = .ok (.iadd, 1) := by decide +kernel
theorem dX11_turn_37 : decode cX11_turn 37 = .ok (.putfield 156, 3) := by decide +kernel
theorem dX11_turn_40 : decode cX11_turn 40 = .ok (.aload_n 0, 1) := by decide +kernel
theorem dX11_turn_41 : decode cX11_turn 41 = .ok (.getfield 24, 3) := by decide +kernel
theorem dX11_turn_44 : decode cX11_turn 44 = .ok (.invokevirtual 97, 3) := by decide +kernel
theorem dX11_turn_47 : decode cX11_turn 47 = .ok (.aload_n 0, 1) := by decide +kernel
theorem dX11_turn_48 : decode cX11_turn 48 = .ok (.iload_n 1, 1) := by decide +kernel
theorem dX11_turn_49 : decode cX11_turn 49 = .ok (.aload_n 0, 1) := by decide +kernel
theorem dX11_turn_50 : decode cX11_turn 50 = .ok (.getfield 10, 3) := by decide +kernel
theorem dX11_turn_53 : decode cX11_turn 53 = .ok (.invokevirtual 162, 3) := by decide +kernel
theorem dX11_turn_56 : decode cX11_turn 56 = .ok (.isub, 1) := by decide +kernel
theorem dX11_turn_57 : decode cX11_turn 57 = .ok (.invokevirtual 100, 3) := by decide +kernel
theorem dX11_turn_60 : decode cX11_turn 60 = .ok (.ireturn, 1) := by decide +kernel
theorem dX11_spend_0 : decode cX11_spend 0 = .ok (.aload_n 0, 1) := by decide +kernel
theorem dX11_spend_1 : decode cX11_spend 1 = .ok (.iload_n 1, 1) := by decide +kernel
theorem dX11_spend_2 : decode cX11_spend 2 = .ok (.iconst 2, 1) := by decide +kernel
theorem dX11_spend_3 : decode cX11_spend 3 = .ok (.invokevirtual 166, 3) := by decide +kernel
theorem dX11_spend_6 : decode cX11_spend 6 = .ok (.ifCond .eq 15, 3) := by decide +kernel
theorem dX11_spend_9 : decode cX11_spend 9 = .ok (.iload_n 2, 1) := by decide +kernel
theorem dX11_spend_10 : decode cX11_spend 10 = .ok (.iconst 1, 1) := by decide +kernel
theorem dX11_spend_11 : decode cX11_spend 11 = .ok (.if_icmp .lt 10, 3) := by decide +kernel
theorem dX11_spend_14 : decode cX11_spend 14 = .ok (.iload_n 2, 1) := by decide +kernel
theorem dX11_spend_15 : decode cX11_spend 15 = .ok (.sipush 1000, 3) := by decide +kernel
theorem dX11_spend_18 : decode cX11_spend 18 = .ok (.if_icmp .le 9, 3) := by decide +kernel
theorem dX11_spend_21 : decode cX11_spend 21 = .ok (.aload_n 0, 1) := by decide +kernel
theorem dX11_spend_22 : decode cX11_spend 22 = .ok (.iconst 1, 1) := by decide +kernel
theorem dX11_spend_23 : decode cX11_spend 23 = .ok (.invokevirtual 87, 3) := by decide +kernel
theorem dX11_spend_26 : decode cX11_spend 26 = .ok (.ireturn, 1) := by decide +kernel
theorem dX11_spend_27 : decode cX11_spend 27 = .ok (.aload_n 0, 1) := by decide +kernel
theorem dX11_spend_28 : decode cX11_spend 28 = .ok (.iload_n 1, 1) := by decide +kernel
theorem dX11_spend_29 : decode cX11_spend 29 = .ok (.invokevirtual 169, 3) := by decide +kernel
theorem dX11_spend_32 : decode cX11_spend 32 = .ok (.iload_n 2, 1) := by decide +kernel
theorem dX11_spend_33 : decode cX11_spend 33 = .ok (.i2l, 1) := by decide +kernel
theorem dX11_spend_34 : decode cX11_spend 34 = .ok (.lsub, 1) := by decide +kernel
theorem dX11_spend_35 : decode cX11_spend 35 = .ok (.lstore_n 3, 1) := by decide +kernel
theorem dX11_spend_36 : decode cX11_spend 36 = .ok (.lload_n 3, 1) := by decide +kernel
theorem dX11_spend_37 : decode cX11_spend 37 = .ok (.lconst 0, 1) := by decide +kernel
theorem dX11_spend_38 : decode cX11_spend 38 = .ok (.lcmp, 1) := by decide +kernel
theorem dX11_spend_39 : decode cX11_spend 39 = .ok (.ifCond .ge 9, 3) := by decide +kernel
theorem dX11_spend_42 : decode cX11_spend 42 = .ok (.aload_n 0, 1) := by decide +kernel
theorem dX11_spend_43 : decode cX11_spend 43 = .ok (.iconst 3, 1) := by decide +kernel
theorem dX11_spend_44 : decode cX11_spend 44 = .ok (.invokevirtual 87, 3) := by decide +kernel
theorem dX11_spend_47 : decode cX11_spend 47 = .ok (.ireturn, 1) := by decide +kernel
theorem dX11_spend_48 : decode cX11_spend 48 = .ok (.aload_n 0, 1) := by decide +kernel
theorem dX11_spend_49 : decode cX11_spend 49 = .ok (.getfield 10, 3) := by decide +kernel
theorem dX11_spend_52 : decode cX11_spend 52 = .ok (.getfield 173, 3) := by decide +kernel
theorem dX11_spend_55 : decode cX11_spend 55 = .ok (.iload_n 1, 1) := by decide +kernel
theorem dX11_spend_56 : decode cX11_spend 56 = .ok (.dup2, 1) := by decide +kernel
theorem dX11_spend_57 : decode cX11_spend 57 = .ok (.iaload, 1) := by decide +kernel
theorem dX11_spend_58 : decode cX11_spend 58 = .ok (.iload_n 2, 1) := by decide +kernel
theorem dX11_spend_59 : decode cX11_spend 59 = .ok (.iadd, 1) := by decide +kernel
theorem dX11_spend_60 : decode cX11_spend 60 = .ok (.iastore, 1) := by decide +kernel
theorem dX11_spend_61 : decode cX11_spend 61 = .ok (.aload_n 0, 1) := by decide +kernel
theorem dX11_spend_62 : decode cX11_spend 62 = .ok (.getfield 24, 3) := by decide +kernel
theorem dX11_spend_65 : decode cX11_spend 65 = .ok (.invokevirtual 97, 3) := by decide +kernel
theorem dX11_spend_68 : decode cX11_spend 68 = .ok (.aload_n 0, 1) := by decide +kernel
theorem dX11_spend_69 : decode cX11_spend 69 = .ok (.lload_n 3, 1) := by decide +kernel
theorem dX11_spend_70 : decode cX11_spend 70 = .ok (.l2i, 1) := by decide +kernel
theorem dX11_spend_71 : decode cX11_spend 71 = .ok (.invokevirtual 100, 3) := by decide +kernel
theorem dX11_spend_74 : decode cX11_spend 74 = .ok (.ireturn, 1) := by decide +kernel
theorem dX11_rest_0 : decode cX11_rest 0 = .ok (.iconst 0, 1) := by decide +kernel
theorem dX11_rest_1 : decode cX11_rest 1 = .ok (.istore_n 1, 1) := by decide +kernel
theorem dX11_rest_2 : decode cX11_rest 2 = .ok (.iconst 0, 1) := by decide +kernel
theorem dX11_rest_3 : decode cX11_rest 3 = .ok (.istore_n 2, 1) := by decide +kernel
theorem dX11_rest_4 : decode cX11_rest 4 = .ok (.iload_n 2, 1) := by decide +kernel
theorem dX11_rest_5 : decode cX11_rest 5 = .ok (.aload_n 0, 1) := by decide +kernel
theorem dX11_rest_6 : decode cX11_rest 6 = .ok (.getfield 10, 3) := by decide +kernel
theorem dX11_rest_9 : decode cX11_rest 9 = .ok (.getfield 91, 3) := by decide +kernel
theorem dX11_rest_12 : decode cX11_rest 12 = .ok (.if_icmp .ge 34, 3) := by decide +kernel
theorem dX11_rest_15 : decode cX11_rest 15 = .ok (.aload_n 0, 1) := by decide +kernel
theorem dX11_rest_16 : decode cX11_rest 16 = .ok (.getfield 10, 3) := by decide +kernel
theorem dX11_rest_19 : decode cX11_rest 19 = .ok (.getfield 173, 3) := by decide +kernel
theorem dX11_rest_22 : decode cX11_rest 22 = .ok (.iload_n 2, 1) := by decide +kernel
theorem dX11_rest_23 : decode cX11_rest 23 = .ok (.iaload, 1) := by decide +kernel
theorem dX11_rest_24 : decode cX11_rest 24 = .ok (.ifCond .eq 16, 3) := by decide +kernel
theorem dX11_rest_27 : decode cX11_rest 27 = .ok (.aload_n 0, 1) := by decide +kernel
theorem dX11_rest_28 : decode cX11_rest 28 = .ok (.getfield 10, 3) := by decide +kernel
theorem dX11_rest_31 : decode cX11_rest 31 = .ok (.getfield 173, 3) := by decide +kernel
theorem dX11_rest_34 : decode cX11_rest 34 = .ok (.iload_n 2, 1) := by decide +kernel
theorem dX11_rest_35 : decode cX11_rest 35 = .ok (.iconst 0, 1) := by decide +kernel
theorem dX11_rest_36 : decode cX11_rest 36 = .ok (.iastore, 1) := by decide +kernel
theorem dX11_rest_37 : decode cX11_rest 37 = .ok (.iinc 1 1, 3) := by decide +kernel
theorem dX11_rest_40 : decode cX11_rest 40 = .ok (.iinc 2 1, 3) := by decide +kernel
theorem dX11_rest_43 : decode cX11_rest 43 = .ok (.goto (-39), 3) := by decide +kernel
theorem dX11_rest_46 : decode cX11_rest 46 = .ok (.aload_n 0, 1) := by decide +kernel
theorem dX11_rest_47 : decode cX11_rest 47 = .ok (.getfield 24, 3) := by decide +kernel
theorem dX11_rest_50 : decode cX11_rest 50 = .ok (.invokevirtual 97, 3) := by decide +kernel
theorem dX11_rest_53 : decode cX11_rest 53 = .ok (.aload_n 0, 1) := by decide +kernel
theorem dX11_rest_54 : decode cX11_rest 54 = .ok (.iload_n 1, 1) := by decide +kernel
theorem dX11_rest_55 : decode cX11_rest 55 = .ok (.invokevirtual 100, 3) := by decide +kernel
theorem dX11_rest_58 : decode cX11_rest 58 = .ok (.ireturn, 1) := by decide +kernel
theorem dX11_image_0 : decode cX11_image 0 = .ok (.aload_n 0, 1) := by decide +kernel
theorem dX11_image_1 : decode cX11_image 1 = .ok (.getfield 16, 3) := by decide +kernel
theorem dX11_image_4 : decode cX11_image 4 = .ok (.aload_n 0, 1) := by decide +kernel
theorem dX11_image_5 : decode cX11_image 5 = .ok (.getfield 10, 3) := by decide +kernel
theorem dX11_image_8 : decode cX11_image 8 = .ok (.invokevirtual 176, 3) := by decide +kernel
theorem dX11_image_11 : decode cX11_image 11 = .ok (.aload_n 0, 1) := by decide +kernel
theorem dX11_image_12 : decode cX11_image 12 = .ok (.iconst 1, 1) := by decide +kernel
theorem dX11_image_13 : decode cX11_image 13 = .ok (.putfield 28, 3) := by decide +kernel
theorem dX11_image_16 : decode cX11_image 16 = .ok (.aload_n 0, 1) := by decide +kernel
theorem dX11_image_17 : decode cX11_image 17 = .ok (.iconst 1, 1) := by decide +kernel
theorem dX11_image_18 : decode cX11_image 18 = .ok (.invokevirtual 100, 3) := by decide +kernel
theorem dX11_image_21 : decode cX11_image 21 = .ok (.ireturn, 1) := by decide +kernel
theorem dX11_back_0 : decode cX11_back 0 = .ok (.aload_n 0, 1) := by decide +kernel
theorem dX11_back_1 : decode cX11_back 1 = .ok (.getfield 32, 3) := by decide +kernel
theorem dX11_back_4 : decode cX11_back 4 = .ok (.bipush 20, 2) := by decide +kernel
theorem dX11_back_6 : decode cX11_back 6 = .ok (.if_icmp .lt 9, 3) := by decide +kernel
theorem dX11_back_9 : decode cX11_back 9 = .ok (.aload_n 0, 1) := by decide +kernel
theorem dX11_back_10 : decode cX11_back 10 = .ok (.iconst 2, 1) := by decide +kernel
theorem dX11_back_11 : decode cX11_back 11 = .ok (.invokevirtual 87, 3) := by decide +kernel
theorem dX11_back_14 : decode cX11_back 14 = .ok (.ireturn, 1) := by decide +kernel
theorem dX11_back_15 : decode cX11_back 15 = .ok (.aload_n 0, 1) := by decide +kernel
theorem dX11_back_16 : decode cX11_back 16 = .ok (.getfield 28, 3) := by decide +kernel
theorem dX11_back_19 : decode cX11_back 19 = .ok (.ifCond .ne 9, 3) := by decide +kernel
theorem dX11_back_22 : decode cX11_back 22 = .ok (.aload_n 0, 1) := by decide +kernel
theorem dX11_back_23 : decode cX11_back 23 = .ok (.iconst 3, 1) := by decide +kernel
theorem dX11_back_24 : decode cX11_back 24 = .ok (.invokevirtual 87, 3) := by decide +kernel
theorem dX11_back_27 : decode cX11_back 27 = .ok (.ireturn, 1) := by decide +kernel
theorem dX11_back_28 : decode cX11_back 28 = .ok (.aload_n 0, 1) := by decide +kernel
theorem dX11_back_29 : decode cX11_back 29 = .ok (.dup, 1) := by decide +kernel
theorem dX11_back_30 : decode cX11_back 30 = .ok (.getfield 32, 3) := by decide +kernel
theorem dX11_back_33 : decode cX11_back 33 = .ok (.iconst 1, 1) := by decide +kernel
theorem dX11_back_34 : decode cX11_back 34 = .ok (.iadd, 1) := by decide +kernel
theorem dX11_back_35 : decode cX11_back 35 = .ok (.putfield 32, 3) := by decide +kernel
theorem dX11_back_38 : decode cX11_back 38 = .ok (.aload_n 0, 1) := by decide +kernel
theorem dX11_back_39 : decode cX11_back 39 = .ok (.getfield 10, 3) := by decide +kernel
theorem dX11_back_42 : decode cX11_back 42 = .ok (.aload_n 0, 1) := by decide +kernel
theorem dX11_back_43 : decode cX11_back 43 = .ok (.getfield 16, 3) := by decide +kernel
theorem dX11_back_46 : decode cX11_back 46 = .ok (.invokevirtual 176, 3) := by decide +kernel
theorem dX11_back_49 : decode cX11_back 49 = .ok (.aload_n 0, 1) := by decide +kernel
theorem dX11_back_50 : decode cX11_back 50 = .ok (.aload_n 0, 1) := by decide +kernel
theorem dX11_back_51 : decode cX11_back 51 = .ok (.getfield 44, 3) := by decide +kernel
theorem dX11_back_54 : decode cX11_back 54 = .ok (.putfield 48, 3) := by decide +kernel
theorem dX11_back_57 : decode cX11_back 57 = .ok (.aload_n 0, 1) := by decide +kernel
theorem dX11_back_58 : decode cX11_back 58 = .ok (.getfield 24, 3) := by decide +kernel
theorem dX11_back_61 : decode cX11_back 61 = .ok (.invokevirtual 97, 3) := by decide +kernel
theorem dX11_back_64 : decode cX11_back 64 = .ok (.aload_n 0, 1) := by decide +kernel
theorem dX11_back_65 : decode cX11_back 65 = .ok (.aload_n 0, 1) := by decide +kernel
theorem dX11_back_66 : decode cX11_back 66 = .ok (.getfield 10, 3) := by decide +kernel
theorem dX11_back_69 : decode cX11_back 69 = .ok (.getfield 156, 3) := by decide +kernel
theorem dX11_back_72 : decode cX11_back 72 = .ok (.invokevirtual 100, 3) := by decide +kernel
theorem dX11_back_75 : decode cX11_back 75 = .ok (.ireturn, 1) := by decide +kernel
theorem dX11_valueTold_0 : decode cX11_valueTold 0 = .ok (.aload_n 0, 1) := by decide +kernel
theorem dX11_valueTold_1 : decode cX11_valueTold 1 = .ok (.iload_n 1, 1) := by decide +kernel
theorem dX11_valueTold_2 : decode cX11_valueTold 2 = .ok (.invokevirtual 113, 3) := by decide +kernel
theorem dX11_valueTold_5 : decode cX11_valueTold 5 = .ok (.ifCond .ne 7, 3) := by decide +kernel
theorem dX11_valueTold_8 : decode cX11_valueTold 8 = .ok (.sipush (-1000), 3) := by decide +kernel
theorem dX11_valueTold_11 : decode cX11_valueTold 11 = .ok (.ireturn, 1) := by decide +kernel
theorem dX11_valueTold_12 : decode cX11_valueTold 12 = .ok (.iload_n 2, 1) := by decide +kernel
theorem dX11_valueTold_13 : decode cX11_valueTold 13 = .ok (.tableswitch 102 0 5 #[39, 49, 59, 69, 78, 87], 39) := by decide +kernel
theorem dX11_valueTold_52 : decode cX11_valueTold 52 = .ok (.aload_n 0, 1) := by decide +kernel
theorem dX11_valueTold_53 : decode cX11_valueTold 53 = .ok (.getfield 10, 3) := by decide +kernel
theorem dX11_valueTold_56 : decode cX11_valueTold 56 = .ok (.getfield 179, 3) := by decide +kernel
theorem dX11_valueTold_59 : decode cX11_valueTold 59 = .ok (.iload_n 1, 1) := by decide +kernel
theorem dX11_valueTold_60 : decode cX11_valueTold 60 = .ok (.iaload, 1) := by decide +kernel
theorem dX11_valueTold_61 : decode cX11_valueTold 61 = .ok (.ireturn, 1) := by decide +kernel
theorem dX11_valueTold_62 : decode cX11_valueTold 62 = .ok (.aload_n 0, 1) := by decide +kernel
theorem dX11_valueTold_63 : decode cX11_valueTold 63 = .ok (.getfield 10, 3) := by decide +kernel
theorem dX11_valueTold_66 : decode cX11_valueTold 66 = .ok (.getfield 182, 3) := by decide +kernel
theorem dX11_valueTold_69 : decode cX11_valueTold 69 = .ok (.iload_n 1, 1) := by decide +kernel
theorem dX11_valueTold_70 : decode cX11_valueTold 70 = .ok (.iaload, 1) := by decide +kernel
theorem dX11_valueTold_71 : decode cX11_valueTold 71 = .ok (.ireturn, 1) := by decide +kernel
theorem dX11_valueTold_72 : decode cX11_valueTold 72 = .ok (.aload_n 0, 1) := by decide +kernel
theorem dX11_valueTold_73 : decode cX11_valueTold 73 = .ok (.getfield 10, 3) := by decide +kernel
theorem dX11_valueTold_76 : decode cX11_valueTold 76 = .ok (.getfield 173, 3) := by decide +kernel
theorem dX11_valueTold_79 : decode cX11_valueTold 79 = .ok (.iload_n 1, 1) := by decide +kernel
theorem dX11_valueTold_80 : decode cX11_valueTold 80 = .ok (.iaload, 1) := by decide +kernel
theorem dX11_valueTold_81 : decode cX11_valueTold 81 = .ok (.ireturn, 1) := by decide +kernel
theorem dX11_valueTold_82 : decode cX11_valueTold 82 = .ok (.aload_n 0, 1) := by decide +kernel
theorem dX11_valueTold_83 : decode cX11_valueTold 83 = .ok (.getfield 10, 3) := by decide +kernel
theorem dX11_valueTold_86 : decode cX11_valueTold 86 = .ok (.iload_n 1, 1) := by decide +kernel
theorem dX11_valueTold_87 : decode cX11_valueTold 87 = .ok (.invokevirtual 185, 3) := by decide +kernel
theorem dX11_valueTold_90 : decode cX11_valueTold 90 = .ok (.ireturn, 1) := by decide +kernel
theorem dX11_valueTold_91 : decode cX11_valueTold 91 = .ok (.aload_n 0, 1) := by decide +kernel
theorem dX11_valueTold_92 : decode cX11_valueTold 92 = .ok (.getfield 10, 3) := by decide +kernel
theorem dX11_valueTold_95 : decode cX11_valueTold 95 = .ok (.iload_n 1, 1) := by decide +kernel
theorem dX11_valueTold_96 : decode cX11_valueTold 96 = .ok (.invokevirtual 188, 3) := by decide +kernel
theorem dX11_valueTold_99 : decode cX11_valueTold 99 = .ok (.ireturn, 1) := by decide +kernel
theorem dX11_valueTold_100 : decode cX11_valueTold 100 = .ok (.aload_n 0, 1) := by decide +kernel
theorem dX11_valueTold_101 : decode cX11_valueTold 101 = .ok (.invokevirtual 191, 3) := by decide +kernel
theorem dX11_valueTold_104 : decode cX11_valueTold 104 = .ok (.getfield 195, 3) := by decide +kernel
theorem dX11_valueTold_107 : decode cX11_valueTold 107 = .ok (.iload_n 1, 1) := by decide +kernel
theorem dX11_valueTold_108 : decode cX11_valueTold 108 = .ok (.invokestatic 145, 3) := by decide +kernel
theorem dX11_valueTold_111 : decode cX11_valueTold 111 = .ok (.invokestatic 200, 3) := by decide +kernel
theorem dX11_valueTold_114 : decode cX11_valueTold 114 = .ok (.ireturn, 1) := by decide +kernel
theorem dX11_valueTold_115 : decode cX11_valueTold 115 = .ok (.sipush (-1000), 3) := by decide +kernel
theorem dX11_valueTold_118 : decode cX11_valueTold 118 = .ok (.ireturn, 1) := by decide +kernel
theorem dX11_number_0 : decode cX11_number 0 = .ok (.aload_n 0, 1) := by decide +kernel
theorem dX11_number_1 : decode cX11_number 1 = .ok (.iload_n 1, 1) := by decide +kernel
theorem dX11_number_2 : decode cX11_number 2 = .ok (.invokevirtual 113, 3) := by decide +kernel
theorem dX11_number_5 : decode cX11_number 5 = .ok (.ifCond .eq 10, 3) := by decide +kernel
theorem dX11_number_8 : decode cX11_number 8 = .ok (.iload_n 2, 1) := by decide +kernel
theorem dX11_number_9 : decode cX11_number 9 = .ok (.invokestatic 204, 3) := by decide +kernel
theorem dX11_number_12 : decode cX11_number 12 = .ok (.ifCond .ne 7, 3) := by decide +kernel
theorem dX11_number_15 : decode cX11_number 15 = .ok (.ldc2_w 207, 3) := by decide +kernel
theorem dX11_number_18 : decode cX11_number 18 = .ok (.lreturn, 1) := by decide +kernel
theorem dX11_number_19 : decode cX11_number 19 = .ok (.aload_n 0, 1) := by decide +kernel
theorem dX11_number_20 : decode cX11_number 20 = .ok (.getfield 24, 3) := by decide +kernel
theorem dX11_number_23 : decode cX11_number 23 = .ok (.iload_n 1, 1) := by decide +kernel
theorem dX11_number_24 : decode cX11_number 24 = .ok (.aload_n 0, 1) := by decide +kernel
theorem dX11_number_25 : decode cX11_number 25 = .ok (.iload_n 2, 1) := by decide +kernel
theorem dX11_number_26 : decode cX11_number 26 = .ok (.invokevirtual 209, 3) := by decide +kernel
theorem dX11_number_29 : decode cX11_number 29 = .ok (.invokevirtual 212, 3) := by decide +kernel
theorem dX11_number_32 : decode cX11_number 32 = .ok (.lreturn, 1) := by decide +kernel
theorem dX11_ruleTold_0 : decode cX11_ruleTold 0 = .ok (.aload_n 0, 1) := by decide +kernel
theorem dX11_ruleTold_1 : decode cX11_ruleTold 1 = .ok (.iload_n 1, 1) := by decide +kernel
theorem dX11_ruleTold_2 : decode cX11_ruleTold 2 = .ok (.invokevirtual 216, 3) := by decide +kernel
theorem dX11_ruleTold_5 : decode cX11_ruleTold 5 = .ok (.astore_n 3, 1) := by decide +kernel
theorem dX11_ruleTold_6 : decode cX11_ruleTold 6 = .ok (.aload_n 3, 1) := by decide +kernel
theorem dX11_ruleTold_7 : decode cX11_ruleTold 7 = .ok (.ifnonnull 5, 3) := by decide +kernel
theorem dX11_ruleTold_10 : decode cX11_ruleTold 10 = .ok (.iconst (-1), 1) := by decide +kernel
theorem dX11_ruleTold_11 : decode cX11_ruleTold 11 = .ok (.ireturn, 1) := by decide +kernel
theorem dX11_ruleTold_12 : decode cX11_ruleTold 12 = .ok (.iload_n 2, 1) := by decide +kernel
theorem dX11_ruleTold_13 : decode cX11_ruleTold 13 = .ok (.tableswitch 178 0 8 #[51, 56, 61, 66, 71, 94, 109, 134, 156], 51) := by decide +kernel
theorem dX11_ruleTold_64 : decode cX11_ruleTold 64 = .ok (.aload_n 3, 1) := by decide +kernel
theorem dX11_ruleTold_65 : decode cX11_ruleTold 65 = .ok (.getfield 220, 3) := by decide +kernel
theorem dX11_ruleTold_68 : decode cX11_ruleTold 68 = .ok (.ireturn, 1) := by decide +kernel
theorem dX11_ruleTold_69 : decode cX11_ruleTold 69 = .ok (.aload_n 3, 1) := by decide +kernel
theorem dX11_ruleTold_70 : decode cX11_ruleTold 70 = .ok (.getfield 225, 3) := by decide +kernel
theorem dX11_ruleTold_73 : decode cX11_ruleTold 73 = .ok (.ireturn, 1) := by decide +kernel
theorem dX11_ruleTold_74 : decode cX11_ruleTold 74 = .ok (.aload_n 3, 1) := by decide +kernel
theorem dX11_ruleTold_75 : decode cX11_ruleTold 75 = .ok (.getfield 228, 3) := by decide +kernel
theorem dX11_ruleTold_78 : decode cX11_ruleTold 78 = .ok (.ireturn, 1) := by decide +kernel
theorem dX11_ruleTold_79 : decode cX11_ruleTold 79 = .ok (.aload_n 3, 1) := by decide +kernel
theorem dX11_ruleTold_80 : decode cX11_ruleTold 80 = .ok (.getfield 231, 3) := by decide +kernel
theorem dX11_ruleTold_83 : decode cX11_ruleTold 83 = .ok (.ireturn, 1) := by decide +kernel
theorem dX11_ruleTold_84 : decode cX11_ruleTold 84 = .ok (.aload_n 3, 1) := by decide +kernel
theorem dX11_ruleTold_85 : decode cX11_ruleTold 85 = .ok (.instanceof 131, 3) := by decide +kernel
theorem dX11_ruleTold_88 : decode cX11_ruleTold 88 = .ok (.ifCond .eq 17, 3) := by decide +kernel
theorem dX11_ruleTold_91 : decode cX11_ruleTold 91 = .ok (.aload_n 3, 1) := by decide +kernel
theorem dX11_ruleTold_92 : decode cX11_ruleTold 92 = .ok (.checkcast 131, 3) := by decide +kernel
theorem dX11_ruleTold_95 : decode cX11_ruleTold 95 = .ok (.astore 4, 2) := by decide +kernel
theorem dX11_ruleTold_97 : decode cX11_ruleTold 97 = .ok (.aload 4, 2) := by decide +kernel
theorem dX11_ruleTold_99 : decode cX11_ruleTold 99 = .ok (.getfield 234, 3) := by decide +kernel
theorem dX11_ruleTold_102 : decode cX11_ruleTold 102 = .ok (.goto 4, 3) := by decide +kernel
theorem dX11_ruleTold_105 : decode cX11_ruleTold 105 = .ok (.iconst 0, 1) := by decide +kernel
theorem dX11_ruleTold_106 : decode cX11_ruleTold 106 = .ok (.ireturn, 1) := by decide +kernel
theorem dX11_ruleTold_107 : decode cX11_ruleTold 107 = .ok (.aload_n 0, 1) := by decide +kernel
theorem dX11_ruleTold_108 : decode cX11_ruleTold 108 = .ok (.invokevirtual 191, 3) := by decide +kernel
theorem dX11_ruleTold_111 : decode cX11_ruleTold 111 = .ok (.getfield 237, 3) := by decide +kernel
theorem dX11_ruleTold_114 : decode cX11_ruleTold 114 = .ok (.iload_n 1, 1) := by decide +kernel
theorem dX11_ruleTold_115 : decode cX11_ruleTold 115 = .ok (.invokestatic 145, 3) := by decide +kernel
theorem dX11_ruleTold_118 : decode cX11_ruleTold 118 = .ok (.invokestatic 200, 3) := by decide +kernel
theorem dX11_ruleTold_121 : decode cX11_ruleTold 121 = .ok (.ireturn, 1) := by decide +kernel
theorem dX11_ruleTold_122 : decode cX11_ruleTold 122 = .ok (.aload_n 3, 1) := by decide +kernel
theorem dX11_ruleTold_123 : decode cX11_ruleTold 123 = .ok (.getfield 240, 3) := by decide +kernel
theorem dX11_ruleTold_126 : decode cX11_ruleTold 126 = .ok (.aload_n 0, 1) := by decide +kernel
theorem dX11_ruleTold_127 : decode cX11_ruleTold 127 = .ok (.getfield 10, 3) := by decide +kernel
theorem dX11_ruleTold_130 : decode cX11_ruleTold 130 = .ok (.getfield 142, 3) := by decide +kernel
theorem dX11_ruleTold_133 : decode cX11_ruleTold 133 = .ok (.aload_n 0, 1) := by decide +kernel
theorem dX11_ruleTold_134 : decode cX11_ruleTold 134 = .ok (.invokevirtual 191, 3) := by decide +kernel
theorem dX11_ruleTold_137 : decode cX11_ruleTold 137 = .ok (.getfield 243, 3) := by decide +kernel
theorem dX11_ruleTold_140 : decode cX11_ruleTold 140 = .ok (.invokevirtual 246, 3) := by decide +kernel
theorem dX11_ruleTold_143 : decode cX11_ruleTold 143 = .ok (.invokestatic 200, 3) := by decide +kernel
theorem dX11_ruleTold_146 : decode cX11_ruleTold 146 = .ok (.ireturn, 1) := by decide +kernel
theorem dX11_ruleTold_147 : decode cX11_ruleTold 147 = .ok (.aload_n 3, 1) := by decide +kernel
theorem dX11_ruleTold_148 : decode cX11_ruleTold 148 = .ok (.getfield 250, 3) := by decide +kernel
theorem dX11_ruleTold_151 : decode cX11_ruleTold 151 = .ok (.iconst (-1), 1) := by decide +kernel
theorem dX11_ruleTold_152 : decode cX11_ruleTold 152 = .ok (.if_icmp .ne 7, 3) := by decide +kernel
theorem dX11_ruleTold_155 : decode cX11_ruleTold 155 = .ok (.iconst (-1), 1) := by decide +kernel
theorem dX11_ruleTold_156 : decode cX11_ruleTold 156 = .ok (.goto 12, 3) := by decide +kernel
theorem dX11_ruleTold_159 : decode cX11_ruleTold 159 = .ok (.aload_n 0, 1) := by decide +kernel
theorem dX11_ruleTold_160 : decode cX11_ruleTold 160 = .ok (.invokevirtual 191, 3) := by decide +kernel
theorem dX11_ruleTold_163 : decode cX11_ruleTold 163 = .ok (.getfield 253, 3) := by decide +kernel
theorem dX11_ruleTold_166 : decode cX11_ruleTold 166 = .ok (.iload_n 1, 1) := by decide +kernel
theorem dX11_ruleTold_167 : decode cX11_ruleTold 167 = .ok (.iaload, 1) := by decide +kernel
theorem dX11_ruleTold_168 : decode cX11_ruleTold 168 = .ok (.ireturn, 1) := by decide +kernel
theorem dX11_ruleTold_169 : decode cX11_ruleTold 169 = .ok (.aload_n 3, 1) := by decide +kernel
theorem dX11_ruleTold_170 : decode cX11_ruleTold 170 = .ok (.getfield 250, 3) := by decide +kernel
theorem dX11_ruleTold_173 : decode cX11_ruleTold 173 = .ok (.iconst (-1), 1) := by decide +kernel
theorem dX11_ruleTold_174 : decode cX11_ruleTold 174 = .ok (.if_icmp .ne 7, 3) := by decide +kernel
theorem dX11_ruleTold_177 : decode cX11_ruleTold 177 = .ok (.iconst (-1), 1) := by decide +kernel
theorem dX11_ruleTold_178 : decode cX11_ruleTold 178 = .ok (.goto 12, 3) := by decide +kernel
theorem dX11_ruleTold_181 : decode cX11_ruleTold 181 = .ok (.aload_n 0, 1) := by decide +kernel
theorem dX11_ruleTold_182 : decode cX11_ruleTold 182 = .ok (.invokevirtual 191, 3) := by decide +kernel
theorem dX11_ruleTold_185 : decode cX11_ruleTold 185 = .ok (.getfield 256, 3) := by decide +kernel
theorem dX11_ruleTold_188 : decode cX11_ruleTold 188 = .ok (.iload_n 1, 1) := by decide +kernel
theorem dX11_ruleTold_189 : decode cX11_ruleTold 189 = .ok (.iaload, 1) := by decide +kernel
theorem dX11_ruleTold_190 : decode cX11_ruleTold 190 = .ok (.ireturn, 1) := by decide +kernel
theorem dX11_ruleTold_191 : decode cX11_ruleTold 191 = .ok (.iconst (-1), 1) := by decide +kernel
theorem dX11_ruleTold_192 : decode cX11_ruleTold 192 = .ok (.ireturn, 1) := by decide +kernel
theorem dX11_amount_0 : decode cX11_amount 0 = .ok (.aload_n 0, 1) := by decide +kernel
theorem dX11_amount_1 : decode cX11_amount 1 = .ok (.iload_n 1, 1) := by decide +kernel
theorem dX11_amount_2 : decode cX11_amount 2 = .ok (.invokevirtual 216, 3) := by decide +kernel
theorem dX11_amount_5 : decode cX11_amount 5 = .ok (.astore_n 2, 1) := by decide +kernel
theorem dX11_amount_6 : decode cX11_amount 6 = .ok (.aload_n 2, 1) := by decide +kernel
theorem dX11_amount_7 : decode cX11_amount 7 = .ok (.ifnull 11, 3) := by decide +kernel
theorem dX11_amount_10 : decode cX11_amount 10 = .ok (.aload_n 2, 1) := by decide +kernel
theorem dX11_amount_11 : decode cX11_amount 11 = .ok (.getfield 250, 3) := by decide +kernel
theorem dX11_amount_14 : decode cX11_amount 14 = .ok (.iconst (-1), 1) := by decide +kernel
theorem dX11_amount_15 : decode cX11_amount 15 = .ok (.if_icmp .ne 7, 3) := by decide +kernel
theorem dX11_amount_18 : decode cX11_amount 18 = .ok (.ldc2_w 207, 3) := by decide +kernel
theorem dX11_amount_21 : decode cX11_amount 21 = .ok (.lreturn, 1) := by decide +kernel
theorem dX11_amount_22 : decode cX11_amount 22 = .ok (.aload_n 0, 1) := by decide +kernel
theorem dX11_amount_23 : decode cX11_amount 23 = .ok (.invokevirtual 191, 3) := by decide +kernel
theorem dX11_amount_26 : decode cX11_amount 26 = .ok (.getfield 259, 3) := by decide +kernel
theorem dX11_amount_29 : decode cX11_amount 29 = .ok (.iload_n 1, 1) := by decide +kernel
theorem dX11_amount_30 : decode cX11_amount 30 = .ok (.laload, 1) := by decide +kernel
theorem dX11_amount_31 : decode cX11_amount 31 = .ok (.lreturn, 1) := by decide +kernel
theorem dX11_ring_0 : decode cX11_ring 0 = .ok (.iload_n 1, 1) := by decide +kernel
theorem dX11_ring_1 : decode cX11_ring 1 = .ok (.ifCond .lt 20, 3) := by decide +kernel
theorem dX11_ring_4 : decode cX11_ring 4 = .ok (.iload_n 1, 1) := by decide +kernel
theorem dX11_ring_5 : decode cX11_ring 5 = .ok (.aload_n 0, 1) := by decide +kernel
theorem dX11_ring_6 : decode cX11_ring 6 = .ok (.getfield 58, 3) := by decide +kernel
theorem dX11_ring_9 : decode cX11_ring 9 = .ok (.if_icmp .ge 12, 3) := by decide +kernel
theorem dX11_ring_12 : decode cX11_ring 12 = .ok (.aload_n 0, 1) := by decide +kernel
theorem dX11_ring_13 : decode cX11_ring 13 = .ok (.getfield 51, 3) := by decide +kernel
theorem dX11_ring_16 : decode cX11_ring 16 = .ok (.iload_n 1, 1) := by decide +kernel
theorem dX11_ring_17 : decode cX11_ring 17 = .ok (.iaload, 1) := by decide +kernel
theorem dX11_ring_18 : decode cX11_ring 18 = .ok (.goto 4, 3) := by decide +kernel
theorem dX11_ring_21 : decode cX11_ring 21 = .ok (.iconst (-1), 1) := by decide +kernel
theorem dX11_ring_22 : decode cX11_ring 22 = .ok (.ireturn, 1) := by decide +kernel
theorem dX11_needs_0 : decode cX11_needs 0 = .ok (.aload_n 0, 1) := by decide +kernel
theorem dX11_needs_1 : decode cX11_needs 1 = .ok (.iload_n 1, 1) := by decide +kernel
theorem dX11_needs_2 : decode cX11_needs 2 = .ok (.invokevirtual 113, 3) := by decide +kernel
theorem dX11_needs_5 : decode cX11_needs 5 = .ok (.ifCond .eq 11, 3) := by decide +kernel
theorem dX11_needs_8 : decode cX11_needs 8 = .ok (.aload_n 0, 1) := by decide +kernel
theorem dX11_needs_9 : decode cX11_needs 9 = .ok (.iload_n 2, 1) := by decide +kernel
theorem dX11_needs_10 : decode cX11_needs 10 = .ok (.invokevirtual 113, 3) := by decide +kernel
theorem dX11_needs_13 : decode cX11_needs 13 = .ok (.ifCond .ne 5, 3) := by decide +kernel
theorem dX11_needs_16 : decode cX11_needs 16 = .ok (.iconst (-1), 1) := by decide +kernel
theorem dX11_needs_17 : decode cX11_needs 17 = .ok (.ireturn, 1) := by decide +kernel
theorem dX11_needs_18 : decode cX11_needs 18 = .ok (.aload_n 0, 1) := by decide +kernel
theorem dX11_needs_19 : decode cX11_needs 19 = .ok (.getfield 10, 3) := by decide +kernel
theorem dX11_needs_22 : decode cX11_needs 22 = .ok (.getfield 262, 3) := by decide +kernel
theorem dX11_needs_25 : decode cX11_needs 25 = .ok (.iload_n 1, 1) := by decide +kernel
theorem dX11_needs_26 : decode cX11_needs 26 = .ok (.iaload, 1) := by decide +kernel
theorem dX11_needs_27 : decode cX11_needs 27 = .ok (.iload_n 2, 1) := by decide +kernel
theorem dX11_needs_28 : decode cX11_needs 28 = .ok (.invokestatic 145, 3) := by decide +kernel
theorem dX11_needs_31 : decode cX11_needs 31 = .ok (.invokestatic 200, 3) := by decide +kernel
theorem dX11_needs_34 : decode cX11_needs 34 = .ok (.ireturn, 1) := by decide +kernel
theorem dX11_choice_0 : decode cX11_choice 0 = .ok (.iload_n 1, 1) := by decide +kernel
theorem dX11_choice_1 : decode cX11_choice 1 = .ok (.invokestatic 103, 3) := by decide +kernel
theorem dX11_choice_4 : decode cX11_choice 4 = .ok (.ifCond .ne 5, 3) := by decide +kernel
theorem dX11_choice_7 : decode cX11_choice 7 = .ok (.iconst (-1), 1) := by decide +kernel
theorem dX11_choice_8 : decode cX11_choice 8 = .ok (.ireturn, 1) := by decide +kernel
theorem dX11_choice_9 : decode cX11_choice 9 = .ok (.iload_n 2, 1) := by decide +kernel
theorem dX11_choice_10 : decode cX11_choice 10 = .ok (.tableswitch 75 0 2 #[26, 41, 56], 26) := by decide +kernel
theorem dX11_choice_36 : decode cX11_choice 36 = .ok (.aload_n 0, 1) := by decide +kernel
theorem dX11_choice_37 : decode cX11_choice 37 = .ok (.getfield 10, 3) := by decide +kernel
theorem dX11_choice_40 : decode cX11_choice 40 = .ok (.getfield 142, 3) := by decide +kernel
theorem dX11_choice_43 : decode cX11_choice 43 = .ok (.iload_n 1, 1) := by decide +kernel
theorem dX11_choice_44 : decode cX11_choice 44 = .ok (.invokestatic 145, 3) := by decide +kernel
theorem dX11_choice_47 : decode cX11_choice 47 = .ok (.invokestatic 200, 3) := by decide +kernel
theorem dX11_choice_50 : decode cX11_choice 50 = .ok (.ireturn, 1) := by decide +kernel
theorem dX11_choice_51 : decode cX11_choice 51 = .ok (.aload_n 0, 1) := by decide +kernel
theorem dX11_choice_52 : decode cX11_choice 52 = .ok (.getfield 10, 3) := by decide +kernel
theorem dX11_choice_55 : decode cX11_choice 55 = .ok (.getfield 106, 3) := by decide +kernel
theorem dX11_choice_58 : decode cX11_choice 58 = .ok (.iload_n 1, 1) := by decide +kernel
theorem dX11_choice_59 : decode cX11_choice 59 = .ok (.invokestatic 145, 3) := by decide +kernel
theorem dX11_choice_62 : decode cX11_choice 62 = .ok (.invokestatic 200, 3) := by decide +kernel
theorem dX11_choice_65 : decode cX11_choice 65 = .ok (.ireturn, 1) := by decide +kernel
theorem dX11_choice_66 : decode cX11_choice 66 = .ok (.aload_n 0, 1) := by decide +kernel
theorem dX11_choice_67 : decode cX11_choice 67 = .ok (.getfield 24, 3) := by decide +kernel
theorem dX11_choice_70 : decode cX11_choice 70 = .ok (.iload_n 1, 1) := by decide +kernel
theorem dX11_choice_71 : decode cX11_choice 71 = .ok (.aload_n 0, 1) := by decide +kernel
theorem dX11_choice_72 : decode cX11_choice 72 = .ok (.getfield 10, 3) := by decide +kernel
theorem dX11_choice_75 : decode cX11_choice 75 = .ok (.getfield 142, 3) := by decide +kernel
theorem dX11_choice_78 : decode cX11_choice 78 = .ok (.invokevirtual 265, 3) := by decide +kernel
theorem dX11_choice_81 : decode cX11_choice 81 = .ok (.invokestatic 200, 3) := by decide +kernel
theorem dX11_choice_84 : decode cX11_choice 84 = .ok (.ireturn, 1) := by decide +kernel
theorem dX11_choice_85 : decode cX11_choice 85 = .ok (.iconst (-1), 1) := by decide +kernel
theorem dX11_choice_86 : decode cX11_choice 86 = .ok (.ireturn, 1) := by decide +kernel
theorem dX11_lawful_0 : decode cX11_lawful 0 = .ok (.iload_n 1, 1) := by decide +kernel
theorem dX11_lawful_1 : decode cX11_lawful 1 = .ok (.invokestatic 204, 3) := by decide +kernel
theorem dX11_lawful_4 : decode cX11_lawful 4 = .ok (.ifCond .eq 21, 3) := by decide +kernel
theorem dX11_lawful_7 : decode cX11_lawful 7 = .ok (.aload_n 0, 1) := by decide +kernel
theorem dX11_lawful_8 : decode cX11_lawful 8 = .ok (.getfield 24, 3) := by decide +kernel
theorem dX11_lawful_11 : decode cX11_lawful 11 = .ok (.aload_n 0, 1) := by decide +kernel
theorem dX11_lawful_12 : decode cX11_lawful 12 = .ok (.iload_n 1, 1) := by decide +kernel
theorem dX11_lawful_13 : decode cX11_lawful 13 = .ok (.invokevirtual 209, 3) := by decide +kernel
theorem dX11_lawful_16 : decode cX11_lawful 16 = .ok (.invokevirtual 268, 3) := by decide +kernel
theorem dX11_lawful_19 : decode cX11_lawful 19 = .ok (.invokestatic 200, 3) := by decide +kernel
theorem dX11_lawful_22 : decode cX11_lawful 22 = .ok (.goto 4, 3) := by decide +kernel
theorem dX11_lawful_25 : decode cX11_lawful 25 = .ok (.iconst (-1), 1) := by decide +kernel
theorem dX11_lawful_26 : decode cX11_lawful 26 = .ok (.ireturn, 1) := by decide +kernel
theorem dX11_mend_0 : decode cX11_mend 0 = .ok (.aload_n 0, 1) := by decide +kernel
theorem dX11_mend_1 : decode cX11_mend 1 = .ok (.getfield 24, 3) := by decide +kernel
theorem dX11_mend_4 : decode cX11_mend 4 = .ok (.aload_n 0, 1) := by decide +kernel
theorem dX11_mend_5 : decode cX11_mend 5 = .ok (.getfield 10, 3) := by decide +kernel
theorem dX11_mend_8 : decode cX11_mend 8 = .ok (.getfield 142, 3) := by decide +kernel
theorem dX11_mend_11 : decode cX11_mend 11 = .ok (.invokevirtual 271, 3) := by decide +kernel
theorem dX11_mend_14 : decode cX11_mend 14 = .ok (.ireturn, 1) := by decide +kernel
theorem dX11_most_0 : decode cX11_most 0 = .ok (.aload_n 0, 1) := by decide +kernel
theorem dX11_most_1 : decode cX11_most 1 = .ok (.iload_n 1, 1) := by decide +kernel
theorem dX11_most_2 : decode cX11_most 2 = .ok (.invokevirtual 113, 3) := by decide +kernel
theorem dX11_most_5 : decode cX11_most 5 = .ok (.ifCond .eq 18, 3) := by decide +kernel
theorem dX11_most_8 : decode cX11_most 8 = .ok (.aload_n 0, 1) := by decide +kernel
theorem dX11_most_9 : decode cX11_most 9 = .ok (.getfield 24, 3) := by decide +kernel
theorem dX11_most_12 : decode cX11_most 12 = .ok (.iload_n 1, 1) := by decide +kernel
theorem dX11_most_13 : decode cX11_most 13 = .ok (.iload_n 2, 1) := by decide +kernel
theorem dX11_most_14 : decode cX11_most 14 = .ok (.iload_n 3, 1) := by decide +kernel
theorem dX11_most_15 : decode cX11_most 15 = .ok (.iload 4, 2) := by decide +kernel
theorem dX11_most_17 : decode cX11_most 17 = .ok (.invokevirtual 274, 3) := by decide +kernel
theorem dX11_most_20 : decode cX11_most 20 = .ok (.goto 4, 3) := by decide +kernel
theorem dX11_most_23 : decode cX11_most 23 = .ok (.iconst (-1), 1) := by decide +kernel
theorem dX11_most_24 : decode cX11_most 24 = .ok (.istore 5, 2) := by decide +kernel
theorem dX11_most_26 : decode cX11_most 26 = .ok (.iload 5, 2) := by decide +kernel
theorem dX11_most_28 : decode cX11_most 28 = .ok (.iconst (-1), 1) := by decide +kernel
theorem dX11_most_29 : decode cX11_most 29 = .ok (.if_icmp .ne 9, 3) := by decide +kernel
theorem dX11_most_32 : decode cX11_most 32 = .ok (.ldc2_w 207, 3) := by decide +kernel
theorem dX11_most_35 : decode cX11_most 35 = .ok (.goto 13, 3) := by decide +kernel
theorem dX11_most_38 : decode cX11_most 38 = .ok (.aload_n 0, 1) := by decide +kernel
theorem dX11_most_39 : decode cX11_most 39 = .ok (.getfield 24, 3) := by decide +kernel
theorem dX11_most_42 : decode cX11_most 42 = .ok (.iload_n 1, 1) := by decide +kernel
theorem dX11_most_43 : decode cX11_most 43 = .ok (.iload 5, 2) := by decide +kernel
theorem dX11_most_45 : decode cX11_most 45 = .ok (.invokevirtual 212, 3) := by decide +kernel
theorem dX11_most_48 : decode cX11_most 48 = .ok (.lreturn, 1) := by decide +kernel
theorem dX11_seek_0 : decode cX11_seek 0 = .ok (.aload_n 0, 1) := by decide +kernel
theorem dX11_seek_1 : decode cX11_seek 1 = .ok (.iload_n 1, 1) := by decide +kernel
theorem dX11_seek_2 : decode cX11_seek 2 = .ok (.invokevirtual 113, 3) := by decide +kernel
theorem dX11_seek_5 : decode cX11_seek 5 = .ok (.ifCond .eq 18, 3) := by decide +kernel
theorem dX11_seek_8 : decode cX11_seek 8 = .ok (.aload_n 0, 1) := by decide +kernel
theorem dX11_seek_9 : decode cX11_seek 9 = .ok (.getfield 24, 3) := by decide +kernel
theorem dX11_seek_12 : decode cX11_seek 12 = .ok (.iload_n 1, 1) := by decide +kernel
theorem dX11_seek_13 : decode cX11_seek 13 = .ok (.iload_n 2, 1) := by decide +kernel
theorem dX11_seek_14 : decode cX11_seek 14 = .ok (.iload_n 3, 1) := by decide +kernel
theorem dX11_seek_15 : decode cX11_seek 15 = .ok (.iload 4, 2) := by decide +kernel
theorem dX11_seek_17 : decode cX11_seek 17 = .ok (.invokevirtual 274, 3) := by decide +kernel
theorem dX11_seek_20 : decode cX11_seek 20 = .ok (.goto 4, 3) := by decide +kernel
theorem dX11_seek_23 : decode cX11_seek 23 = .ok (.iconst (-1), 1) := by decide +kernel
theorem dX11_seek_24 : decode cX11_seek 24 = .ok (.ireturn, 1) := by decide +kernel
theorem dX11_both_0 : decode cX11_both 0 = .ok (.aload_n 0, 1) := by decide +kernel
theorem dX11_both_1 : decode cX11_both 1 = .ok (.iload_n 1, 1) := by decide +kernel
theorem dX11_both_2 : decode cX11_both 2 = .ok (.invokevirtual 113, 3) := by decide +kernel
theorem dX11_both_5 : decode cX11_both 5 = .ok (.ifCond .eq 23, 3) := by decide +kernel
theorem dX11_both_8 : decode cX11_both 8 = .ok (.aload_n 0, 1) := by decide +kernel
theorem dX11_both_9 : decode cX11_both 9 = .ok (.iload_n 2, 1) := by decide +kernel
theorem dX11_both_10 : decode cX11_both 10 = .ok (.invokevirtual 113, 3) := by decide +kernel
theorem dX11_both_13 : decode cX11_both 13 = .ok (.ifCond .eq 15, 3) := by decide +kernel
theorem dX11_both_16 : decode cX11_both 16 = .ok (.aload_n 0, 1) := by decide +kernel
theorem dX11_both_17 : decode cX11_both 17 = .ok (.getfield 24, 3) := by decide +kernel
theorem dX11_both_20 : decode cX11_both 20 = .ok (.iload_n 1, 1) := by decide +kernel
theorem dX11_both_21 : decode cX11_both 21 = .ok (.iload_n 2, 1) := by decide +kernel
theorem dX11_both_22 : decode cX11_both 22 = .ok (.invokevirtual 278, 3) := by decide +kernel
theorem dX11_both_25 : decode cX11_both 25 = .ok (.goto 4, 3) := by decide +kernel
theorem dX11_both_28 : decode cX11_both 28 = .ok (.iconst (-1), 1) := by decide +kernel
theorem dX11_both_29 : decode cX11_both 29 = .ok (.ireturn, 1) := by decide +kernel
theorem dX11_way_0 : decode cX11_way 0 = .ok (.iload_n 1, 1) := by decide +kernel
theorem dX11_way_1 : decode cX11_way 1 = .ok (.invokestatic 282, 3) := by decide +kernel
theorem dX11_way_4 : decode cX11_way 4 = .ok (.ifCond .eq 15, 3) := by decide +kernel
theorem dX11_way_7 : decode cX11_way 7 = .ok (.iload_n 2, 1) := by decide +kernel
theorem dX11_way_8 : decode cX11_way 8 = .ok (.ifCond .lt 11, 3) := by decide +kernel
theorem dX11_way_11 : decode cX11_way 11 = .ok (.iload_n 2, 1) := by decide +kernel
theorem dX11_way_12 : decode cX11_way 12 = .ok (.iload_n 1, 1) := by decide +kernel
theorem dX11_way_13 : decode cX11_way 13 = .ok (.invokestatic 148, 3) := by decide +kernel
theorem dX11_way_16 : decode cX11_way 16 = .ok (.if_icmp .lt 5, 3) := by decide +kernel
theorem dX11_way_19 : decode cX11_way 19 = .ok (.iconst (-1), 1) := by decide +kernel
theorem dX11_way_20 : decode cX11_way 20 = .ok (.ireturn, 1) := by decide +kernel
theorem dX11_way_21 : decode cX11_way 21 = .ok (.aload_n 0, 1) := by decide +kernel
theorem dX11_way_22 : decode cX11_way 22 = .ok (.getfield 24, 3) := by decide +kernel
theorem dX11_way_25 : decode cX11_way 25 = .ok (.iload_n 1, 1) := by decide +kernel
theorem dX11_way_26 : decode cX11_way 26 = .ok (.invokevirtual 285, 3) := by decide +kernel
theorem dX11_way_29 : decode cX11_way 29 = .ok (.aload_n 0, 1) := by decide +kernel
theorem dX11_way_30 : decode cX11_way 30 = .ok (.getfield 24, 3) := by decide +kernel
theorem dX11_way_33 : decode cX11_way 33 = .ok (.iload_n 1, 1) := by decide +kernel
theorem dX11_way_34 : decode cX11_way 34 = .ok (.iload_n 2, 1) := by decide +kernel
theorem dX11_way_35 : decode cX11_way 35 = .ok (.invokevirtual 289, 3) := by decide +kernel
theorem dX11_way_38 : decode cX11_way 38 = .ok (.ireturn, 1) := by decide +kernel
theorem dX11_dice_0 : decode cX11_dice 0 = .ok (.aload_n 0, 1) := by decide +kernel
theorem dX11_dice_1 : decode cX11_dice 1 = .ok (.iload_n 1, 1) := by decide +kernel
theorem dX11_dice_2 : decode cX11_dice 2 = .ok (.iconst 3, 1) := by decide +kernel
theorem dX11_dice_3 : decode cX11_dice 3 = .ok (.invokevirtual 166, 3) := by decide +kernel
theorem dX11_dice_6 : decode cX11_dice 6 = .ok (.ifCond .ne 7, 3) := by decide +kernel
theorem dX11_dice_9 : decode cX11_dice 9 = .ok (.ldc2_w 207, 3) := by decide +kernel
theorem dX11_dice_12 : decode cX11_dice 12 = .ok (.lreturn, 1) := by decide +kernel
theorem dX11_dice_13 : decode cX11_dice 13 = .ok (.aload_n 0, 1) := by decide +kernel
theorem dX11_dice_14 : decode cX11_dice 14 = .ok (.getfield 10, 3) := by decide +kernel
theorem dX11_dice_17 : decode cX11_dice 17 = .ok (.iload_n 1, 1) := by decide +kernel
theorem dX11_dice_18 : decode cX11_dice 18 = .ok (.invokevirtual 185, 3) := by decide +kernel
theorem dX11_dice_21 : decode cX11_dice 21 = .ok (.istore_n 3, 1) := by decide +kernel
theorem dX11_dice_22 : decode cX11_dice 22 = .ok (.aload_n 0, 1) := by decide +kernel
theorem dX11_dice_23 : decode cX11_dice 23 = .ok (.getfield 10, 3) := by decide +kernel
theorem dX11_dice_26 : decode cX11_dice 26 = .ok (.iload_n 1, 1) := by decide +kernel
theorem dX11_dice_27 : decode cX11_dice 27 = .ok (.invokevirtual 188, 3) := by decide +kernel
theorem dX11_dice_30 : decode cX11_dice 30 = .ok (.istore 4, 2) := by decide +kernel
theorem dX11_dice_32 : decode cX11_dice 32 = .ok (.aload_n 0, 1) := by decide +kernel
theorem dX11_dice_33 : decode cX11_dice 33 = .ok (.iload_n 1, 1) := by decide +kernel
theorem dX11_dice_34 : decode cX11_dice 34 = .ok (.invokevirtual 169, 3) := by decide +kernel
theorem dX11_dice_37 : decode cX11_dice 37 = .ok (.lstore 5, 2) := by decide +kernel
theorem dX11_dice_39 : decode cX11_dice 39 = .ok (.iload_n 3, 1) := by decide +kernel
theorem dX11_dice_40 : decode cX11_dice 40 = .ok (.iload 4, 2) := by decide +kernel
theorem dX11_dice_42 : decode cX11_dice 42 = .ok (.iconst 1, 1) := by decide +kernel
theorem dX11_dice_43 : decode cX11_dice 43 = .ok (.iadd, 1) := by decide +kernel
theorem dX11_dice_44 : decode cX11_dice 44 = .ok (.imul, 1) := by decide +kernel
theorem dX11_dice_45 : decode cX11_dice 45 = .ok (.istore 7, 2) := by decide +kernel
theorem dX11_dice_47 : decode cX11_dice 47 = .ok (.iload 7, 2) := by decide +kernel
theorem dX11_dice_49 : decode cX11_dice 49 = .ok (.iconst 2, 1) := by decide +kernel
theorem dX11_dice_50 : decode cX11_dice 50 = .ok (.irem, 1) := by decide +kernel
theorem dX11_dice_51 : decode cX11_dice 51 = .ok (.ifCond .ne 7, 3) := by decide +kernel
theorem dX11_dice_54 : decode cX11_dice 54 = .ok (.iconst 1, 1) := by decide +kernel
theorem dX11_dice_55 : decode cX11_dice 55 = .ok (.goto 4, 3) := by decide +kernel
theorem dX11_dice_58 : decode cX11_dice 58 = .ok (.iconst 0, 1) := by decide +kernel
theorem dX11_dice_59 : decode cX11_dice 59 = .ok (.istore 8, 2) := by decide +kernel
theorem dX11_dice_61 : decode cX11_dice 61 = .ok (.iload_n 2, 1) := by decide +kernel
theorem dX11_dice_62 : decode cX11_dice 62 = .ok (.tableswitch 85 0 3 #[30, 36, 45, 72], 30) := by decide +kernel
theorem dX11_dice_92 : decode cX11_dice 92 = .ok (.lload 5, 2) := by decide +kernel
theorem dX11_dice_94 : decode cX11_dice 94 = .ok (.iload_n 3, 1) := by decide +kernel
theorem dX11_dice_95 : decode cX11_dice 95 = .ok (.i2l, 1) := by decide +kernel
theorem dX11_dice_96 : decode cX11_dice 96 = .ok (.ladd, 1) := by decide +kernel
theorem dX11_dice_97 : decode cX11_dice 97 = .ok (.lreturn, 1) := by decide +kernel
theorem dX11_dice_98 : decode cX11_dice 98 = .ok (.lload 5, 2) := by decide +kernel
theorem dX11_dice_100 : decode cX11_dice 100 = .ok (.iload_n 3, 1) := by decide +kernel
theorem dX11_dice_101 : decode cX11_dice 101 = .ok (.iload 4, 2) := by decide +kernel
theorem dX11_dice_103 : decode cX11_dice 103 = .ok (.imul, 1) := by decide +kernel
theorem dX11_dice_104 : decode cX11_dice 104 = .ok (.i2l, 1) := by decide +kernel
theorem dX11_dice_105 : decode cX11_dice 105 = .ok (.ladd, 1) := by decide +kernel
theorem dX11_dice_106 : decode cX11_dice 106 = .ok (.lreturn, 1) := by decide +kernel
theorem dX11_dice_107 : decode cX11_dice 107 = .ok (.iload 8, 2) := by decide +kernel
theorem dX11_dice_109 : decode cX11_dice 109 = .ok (.ifCond .eq 14, 3) := by decide +kernel
theorem dX11_dice_112 : decode cX11_dice 112 = .ok (.lload 5, 2) := by decide +kernel
theorem dX11_dice_114 : decode cX11_dice 114 = .ok (.iload 7, 2) := by decide +kernel
theorem dX11_dice_116 : decode cX11_dice 116 = .ok (.iconst 2, 1) := by decide +kernel
theorem dX11_dice_117 : decode cX11_dice 117 = .ok (.idiv, 1) := by decide +kernel
theorem dX11_dice_118 : decode cX11_dice 118 = .ok (.i2l, 1) := by decide +kernel
theorem dX11_dice_119 : decode cX11_dice 119 = .ok (.ladd, 1) := by decide +kernel
theorem dX11_dice_120 : decode cX11_dice 120 = .ok (.goto 13, 3) := by decide +kernel
theorem dX11_dice_123 : decode cX11_dice 123 = .ok (.lload 5, 2) := by decide +kernel
theorem dX11_dice_125 : decode cX11_dice 125 = .ok (.ldc2_w 292, 3) := by decide +kernel
theorem dX11_dice_128 : decode cX11_dice 128 = .ok (.lmul, 1) := by decide +kernel
theorem dX11_dice_129 : decode cX11_dice 129 = .ok (.iload 7, 2) := by decide +kernel
theorem dX11_dice_131 : decode cX11_dice 131 = .ok (.i2l, 1) := by decide +kernel
theorem dX11_dice_132 : decode cX11_dice 132 = .ok (.ladd, 1) := by decide +kernel
theorem dX11_dice_133 : decode cX11_dice 133 = .ok (.lreturn, 1) := by decide +kernel
theorem dX11_dice_134 : decode cX11_dice 134 = .ok (.iload 8, 2) := by decide +kernel
theorem dX11_dice_136 : decode cX11_dice 136 = .ok (.ifCond .eq 7, 3) := by decide +kernel
theorem dX11_dice_139 : decode cX11_dice 139 = .ok (.lconst 1, 1) := by decide +kernel
theorem dX11_dice_140 : decode cX11_dice 140 = .ok (.goto 6, 3) := by decide +kernel
theorem dX11_dice_143 : decode cX11_dice 143 = .ok (.ldc2_w 292, 3) := by decide +kernel
theorem dX11_dice_146 : decode cX11_dice 146 = .ok (.lreturn, 1) := by decide +kernel
theorem dX11_dice_147 : decode cX11_dice 147 = .ok (.ldc2_w 207, 3) := by decide +kernel
theorem dX11_dice_150 : decode cX11_dice 150 = .ok (.lreturn, 1) := by decide +kernel
theorem dX11_chance_0 : decode cX11_chance 0 = .ok (.aload_n 0, 1) := by decide +kernel
theorem dX11_chance_1 : decode cX11_chance 1 = .ok (.iload_n 1, 1) := by decide +kernel
theorem dX11_chance_2 : decode cX11_chance 2 = .ok (.iconst 3, 1) := by decide +kernel
theorem dX11_chance_3 : decode cX11_chance 3 = .ok (.invokevirtual 166, 3) := by decide +kernel
theorem dX11_chance_6 : decode cX11_chance 6 = .ok (.ifCond .eq 14, 3) := by decide +kernel
theorem dX11_chance_9 : decode cX11_chance 9 = .ok (.iload 4, 2) := by decide +kernel
theorem dX11_chance_11 : decode cX11_chance 11 = .ok (.ifCond .lt 9, 3) := by decide +kernel
theorem dX11_chance_14 : decode cX11_chance 14 = .ok (.iload 4, 2) := by decide +kernel
theorem dX11_chance_16 : decode cX11_chance 16 = .ok (.iconst 1, 1) := by decide +kernel
theorem dX11_chance_17 : decode cX11_chance 17 = .ok (.if_icmp .le 7, 3) := by decide +kernel
theorem dX11_chance_20 : decode cX11_chance 20 = .ok (.ldc2_w 207, 3) := by decide +kernel
theorem dX11_chance_23 : decode cX11_chance 23 = .ok (.lreturn, 1) := by decide +kernel
theorem dX11_chance_24 : decode cX11_chance 24 = .ok (.aload_n 0, 1) := by decide +kernel
theorem dX11_chance_25 : decode cX11_chance 25 = .ok (.aload_n 0, 1) := by decide +kernel
theorem dX11_chance_26 : decode cX11_chance 26 = .ok (.getfield 10, 3) := by decide +kernel
theorem dX11_chance_29 : decode cX11_chance 29 = .ok (.iload_n 1, 1) := by decide +kernel
theorem dX11_chance_30 : decode cX11_chance 30 = .ok (.invokevirtual 185, 3) := by decide +kernel
theorem dX11_chance_33 : decode cX11_chance 33 = .ok (.aload_n 0, 1) := by decide +kernel
theorem dX11_chance_34 : decode cX11_chance 34 = .ok (.getfield 10, 3) := by decide +kernel
theorem dX11_chance_37 : decode cX11_chance 37 = .ok (.iload_n 1, 1) := by decide +kernel
theorem dX11_chance_38 : decode cX11_chance 38 = .ok (.invokevirtual 188, 3) := by decide +kernel
theorem dX11_chance_41 : decode cX11_chance 41 = .ok (.invokevirtual 294, 3) := by decide +kernel
theorem dX11_chance_44 : decode cX11_chance 44 = .ok (.lstore 5, 2) := by decide +kernel
theorem dX11_chance_46 : decode cX11_chance 46 = .ok (.aload_n 0, 1) := by decide +kernel
theorem dX11_chance_47 : decode cX11_chance 47 = .ok (.iload_n 2, 1) := by decide +kernel
theorem dX11_chance_48 : decode cX11_chance 48 = .ok (.aload_n 0, 1) := by decide +kernel
theorem dX11_chance_49 : decode cX11_chance 49 = .ok (.iload_n 1, 1) := by decide +kernel
theorem dX11_chance_50 : decode cX11_chance 50 = .ok (.invokevirtual 169, 3) := by decide +kernel
theorem dX11_chance_53 : decode cX11_chance 53 = .ok (.invokevirtual 297, 3) := by decide +kernel
theorem dX11_chance_56 : decode cX11_chance 56 = .ok (.lstore 7, 2) := by decide +kernel
theorem dX11_chance_58 : decode cX11_chance 58 = .ok (.iload_n 3, 1) := by decide +kernel
theorem dX11_chance_59 : decode cX11_chance 59 = .ok (.ifCond .eq 11, 3) := by decide +kernel
theorem dX11_chance_62 : decode cX11_chance 62 = .ok (.lload 5, 2) := by decide +kernel
theorem dX11_chance_64 : decode cX11_chance 64 = .ok (.lload 5, 2) := by decide +kernel
theorem dX11_chance_66 : decode cX11_chance 66 = .ok (.lmul, 1) := by decide +kernel
theorem dX11_chance_67 : decode cX11_chance 67 = .ok (.goto 5, 3) := by decide +kernel
theorem dX11_chance_70 : decode cX11_chance 70 = .ok (.lload 5, 2) := by decide +kernel
theorem dX11_chance_72 : decode cX11_chance 72 = .ok (.lstore 9, 2) := by decide +kernel
theorem dX11_chance_74 : decode cX11_chance 74 = .ok (.iload_n 3, 1) := by decide +kernel
theorem dX11_chance_75 : decode cX11_chance 75 = .ok (.ifCond .eq 20, 3) := by decide +kernel
theorem dX11_chance_78 : decode cX11_chance 78 = .ok (.lload 9, 2) := by decide +kernel
theorem dX11_chance_80 : decode cX11_chance 80 = .ok (.lload 5, 2) := by decide +kernel
theorem dX11_chance_82 : decode cX11_chance 82 = .ok (.lload 7, 2) := by decide +kernel
theorem dX11_chance_84 : decode cX11_chance 84 = .ok (.lsub, 1) := by decide +kernel
theorem dX11_chance_85 : decode cX11_chance 85 = .ok (.lload 5, 2) := by decide +kernel
theorem dX11_chance_87 : decode cX11_chance 87 = .ok (.lload 7, 2) := by decide +kernel
theorem dX11_chance_89 : decode cX11_chance 89 = .ok (.lsub, 1) := by decide +kernel
theorem dX11_chance_90 : decode cX11_chance 90 = .ok (.lmul, 1) := by decide +kernel
theorem dX11_chance_91 : decode cX11_chance 91 = .ok (.lsub, 1) := by decide +kernel
theorem dX11_chance_92 : decode cX11_chance 92 = .ok (.goto 5, 3) := by decide +kernel
theorem dX11_chance_95 : decode cX11_chance 95 = .ok (.lload 7, 2) := by decide +kernel
theorem dX11_chance_97 : decode cX11_chance 97 = .ok (.lstore 11, 2) := by decide +kernel
theorem dX11_chance_99 : decode cX11_chance 99 = .ok (.lload 11, 2) := by decide +kernel
theorem dX11_chance_101 : decode cX11_chance 101 = .ok (.lload 9, 2) := by decide +kernel
theorem dX11_chance_103 : decode cX11_chance 103 = .ok (.invokestatic 301, 3) := by decide +kernel
theorem dX11_chance_106 : decode cX11_chance 106 = .ok (.lstore 13, 2) := by decide +kernel
theorem dX11_chance_108 : decode cX11_chance 108 = .ok (.iload 4, 2) := by decide +kernel
theorem dX11_chance_110 : decode cX11_chance 110 = .ok (.ifCond .ne 8, 3) := by decide +kernel
theorem dX11_chance_113 : decode cX11_chance 113 = .ok (.lload 11, 2) := by decide +kernel
theorem dX11_chance_115 : decode cX11_chance 115 = .ok (.goto 5, 3) := by decide +kernel
theorem dX11_chance_118 : decode cX11_chance 118 = .ok (.lload 9, 2) := by decide +kernel
theorem dX11_chance_120 : decode cX11_chance 120 = .ok (.lload 13, 2) := by decide +kernel
theorem dX11_chance_122 : decode cX11_chance 122 = .ok (.ldiv, 1) := by decide +kernel
theorem dX11_chance_123 : decode cX11_chance 123 = .ok (.lreturn, 1) := by decide +kernel
theorem dX11_count_0 : decode cX11_count 0 = .ok (.iload_n 1, 1) := by decide +kernel
theorem dX11_count_1 : decode cX11_count 1 = .ok (.tableswitch 119 0 8 #[51, 59, 67, 75, 83, 91, 99, 107, 114], 51) := by decide +kernel
theorem dX11_count_52 : decode cX11_count 52 = .ok (.aload_n 0, 1) := by decide +kernel
theorem dX11_count_53 : decode cX11_count 53 = .ok (.getfield 10, 3) := by decide +kernel
theorem dX11_count_56 : decode cX11_count 56 = .ok (.getfield 91, 3) := by decide +kernel
theorem dX11_count_59 : decode cX11_count 59 = .ok (.ireturn, 1) := by decide +kernel
theorem dX11_count_60 : decode cX11_count 60 = .ok (.aload_n 0, 1) := by decide +kernel
theorem dX11_count_61 : decode cX11_count 61 = .ok (.getfield 10, 3) := by decide +kernel
theorem dX11_count_64 : decode cX11_count 64 = .ok (.getfield 133, 3) := by decide +kernel
theorem dX11_count_67 : decode cX11_count 67 = .ok (.ireturn, 1) := by decide +kernel
theorem dX11_count_68 : decode cX11_count 68 = .ok (.aload_n 0, 1) := by decide +kernel
theorem dX11_count_69 : decode cX11_count 69 = .ok (.getfield 10, 3) := by decide +kernel
theorem dX11_count_72 : decode cX11_count 72 = .ok (.getfield 153, 3) := by decide +kernel
theorem dX11_count_75 : decode cX11_count 75 = .ok (.ireturn, 1) := by decide +kernel
theorem dX11_count_76 : decode cX11_count 76 = .ok (.aload_n 0, 1) := by decide +kernel
theorem dX11_count_77 : decode cX11_count 77 = .ok (.getfield 10, 3) := by decide +kernel
theorem dX11_count_80 : decode cX11_count 80 = .ok (.invokevirtual 162, 3) := by decide +kernel
theorem dX11_count_83 : decode cX11_count 83 = .ok (.ireturn, 1) := by decide +kernel
theorem dX11_count_84 : decode cX11_count 84 = .ok (.aload_n 0, 1) := by decide +kernel
theorem dX11_count_85 : decode cX11_count 85 = .ok (.getfield 10, 3) := by decide +kernel
theorem dX11_count_88 : decode cX11_count 88 = .ok (.getfield 156, 3) := by decide +kernel
theorem dX11_count_91 : decode cX11_count 91 = .ok (.ireturn, 1) := by decide +kernel
theorem dX11_count_92 : decode cX11_count 92 = .ok (.aload_n 0, 1) := by decide +kernel
theorem dX11_count_93 : decode cX11_count 93 = .ok (.getfield 10, 3) := by decide +kernel
theorem dX11_count_96 : decode cX11_count 96 = .ok (.getfield 142, 3) := by decide +kernel
theorem dX11_count_99 : decode cX11_count 99 = .ok (.ireturn, 1) := by decide +kernel
theorem dX11_count_100 : decode cX11_count 100 = .ok (.aload_n 0, 1) := by decide +kernel
theorem dX11_count_101 : decode cX11_count 101 = .ok (.getfield 24, 3) := by decide +kernel
theorem dX11_count_104 : decode cX11_count 104 = .ok (.invokevirtual 305, 3) := by decide +kernel
theorem dX11_count_107 : decode cX11_count 107 = .ok (.ireturn, 1) := by decide +kernel
theorem dX11_count_108 : decode cX11_count 108 = .ok (.aload_n 0, 1) := by decide +kernel
theorem dX11_count_109 : decode cX11_count 109 = .ok (.getfield 61, 3) := by decide +kernel
theorem dX11_count_112 : decode cX11_count 112 = .ok (.iconst 0, 1) := by decide +kernel
theorem dX11_count_113 : decode cX11_count 113 = .ok (.iaload, 1) := by decide +kernel
theorem dX11_count_114 : decode cX11_count 114 = .ok (.ireturn, 1) := by decide +kernel
theorem dX11_count_115 : decode cX11_count 115 = .ok (.aload_n 0, 1) := by decide +kernel
theorem dX11_count_116 : decode cX11_count 116 = .ok (.getfield 58, 3) := by decide +kernel
theorem dX11_count_119 : decode cX11_count 119 = .ok (.ireturn, 1) := by decide +kernel
theorem dX11_count_120 : decode cX11_count 120 = .ok (.iconst (-1), 1) := by decide +kernel
theorem dX11_count_121 : decode cX11_count 121 = .ok (.ireturn, 1) := by decide +kernel
theorem dX11_act_0 : decode cX11_act 0 = .ok (.aload_n 0, 1) := by decide +kernel
theorem dX11_act_1 : decode cX11_act 1 = .ok (.iload_n 1, 1) := by decide +kernel
theorem dX11_act_2 : decode cX11_act 2 = .ok (.invokevirtual 216, 3) := by decide +kernel
theorem dX11_act_5 : decode cX11_act 5 = .ok (.astore 4, 2) := by decide +kernel
theorem dX11_act_7 : decode cX11_act 7 = .ok (.aload 4, 2) := by decide +kernel
theorem dX11_act_9 : decode cX11_act 9 = .ok (.ifnull 12, 3) := by decide +kernel
theorem dX11_act_12 : decode cX11_act 12 = .ok (.iload_n 2, 1) := by decide +kernel
theorem dX11_act_13 : decode cX11_act 13 = .ok (.ifCond .lt 8, 3) := by decide +kernel
theorem dX11_act_16 : decode cX11_act 16 = .ok (.iload_n 2, 1) := by decide +kernel
theorem dX11_act_17 : decode cX11_act 17 = .ok (.iconst 3, 1) := by decide +kernel
theorem dX11_act_18 : decode cX11_act 18 = .ok (.if_icmp .le 9, 3) := by decide +kernel
theorem dX11_act_21 : decode cX11_act 21 = .ok (.aload_n 0, 1) := by decide +kernel
theorem dX11_act_22 : decode cX11_act 22 = .ok (.iconst 1, 1) := by decide +kernel
theorem dX11_act_23 : decode cX11_act 23 = .ok (.invokevirtual 87, 3) := by decide +kernel
theorem dX11_act_26 : decode cX11_act 26 = .ok (.ireturn, 1) := by decide +kernel
theorem dX11_act_27 : decode cX11_act 27 = .ok (.aload_n 0, 1) := by decide +kernel
theorem dX11_act_28 : decode cX11_act 28 = .ok (.getfield 61, 3) := by decide +kernel
theorem dX11_act_31 : decode cX11_act 31 = .ok (.iconst 0, 1) := by decide +kernel
theorem dX11_act_32 : decode cX11_act 32 = .ok (.iconst 0, 1) := by decide +kernel
theorem dX11_act_33 : decode cX11_act 33 = .ok (.iastore, 1) := by decide +kernel
theorem dX11_act_34 : decode cX11_act 34 = .ok (.aload_n 0, 1) := by decide +kernel
theorem dX11_act_35 : decode cX11_act 35 = .ok (.iconst 0, 1) := by decide +kernel
theorem dX11_act_36 : decode cX11_act 36 = .ok (.putfield 36, 3) := by decide +kernel
theorem dX11_act_39 : decode cX11_act 39 = .ok (.iload_n 2, 1) := by decide +kernel
theorem dX11_act_40 : decode cX11_act 40 = .ok (.tableswitch 61 0 2 #[28, 39, 50], 28) := by decide +kernel
theorem dX11_act_68 : decode cX11_act 68 = .ok (.aload 4, 2) := by decide +kernel
theorem dX11_act_70 : decode cX11_act 70 = .ok (.iload_n 3, 1) := by decide +kernel
theorem dX11_act_71 : decode cX11_act 71 = .ok (.aload_n 0, 1) := by decide +kernel
theorem dX11_act_72 : decode cX11_act 72 = .ok (.getfield 61, 3) := by decide +kernel
theorem dX11_act_75 : decode cX11_act 75 = .ok (.invokevirtual 308, 3) := by decide +kernel
theorem dX11_act_78 : decode cX11_act 78 = .ok (.ireturn, 1) := by decide +kernel
theorem dX11_act_79 : decode cX11_act 79 = .ok (.aload 4, 2) := by decide +kernel
theorem dX11_act_81 : decode cX11_act 81 = .ok (.iload_n 3, 1) := by decide +kernel
theorem dX11_act_82 : decode cX11_act 82 = .ok (.aload_n 0, 1) := by decide +kernel
theorem dX11_act_83 : decode cX11_act 83 = .ok (.getfield 61, 3) := by decide +kernel
theorem dX11_act_86 : decode cX11_act 86 = .ok (.invokevirtual 312, 3) := by decide +kernel
theorem dX11_act_89 : decode cX11_act 89 = .ok (.ireturn, 1) := by decide +kernel
theorem dX11_act_90 : decode cX11_act 90 = .ok (.aload 4, 2) := by decide +kernel
theorem dX11_act_92 : decode cX11_act 92 = .ok (.iload_n 3, 1) := by decide +kernel
theorem dX11_act_93 : decode cX11_act 93 = .ok (.aload_n 0, 1) := by decide +kernel
theorem dX11_act_94 : decode cX11_act 94 = .ok (.getfield 61, 3) := by decide +kernel
theorem dX11_act_97 : decode cX11_act 97 = .ok (.invokevirtual 315, 3) := by decide +kernel
theorem dX11_act_100 : decode cX11_act 100 = .ok (.ireturn, 1) := by decide +kernel
theorem dX11_act_101 : decode cX11_act 101 = .ok (.aload 4, 2) := by decide +kernel
theorem dX11_act_103 : decode cX11_act 103 = .ok (.iload_n 3, 1) := by decide +kernel
theorem dX11_act_104 : decode cX11_act 104 = .ok (.aload_n 0, 1) := by decide +kernel
theorem dX11_act_105 : decode cX11_act 105 = .ok (.getfield 61, 3) := by decide +kernel
theorem dX11_act_108 : decode cX11_act 108 = .ok (.invokevirtual 318, 3) := by decide +kernel
theorem dX11_act_111 : decode cX11_act 111 = .ok (.ireturn, 1) := by decide +kernel
theorem dX11_trace_0 : decode cX11_trace 0 = .ok (.iload_n 1, 1) := by decide +kernel
theorem dX11_trace_1 : decode cX11_trace 1 = .ok (.ifCond .lt 24, 3) := by decide +kernel
theorem dX11_trace_4 : decode cX11_trace 4 = .ok (.iload_n 1, 1) := by decide +kernel
theorem dX11_trace_5 : decode cX11_trace 5 = .ok (.aload_n 0, 1) := by decide +kernel
theorem dX11_trace_6 : decode cX11_trace 6 = .ok (.getfield 61, 3) := by decide +kernel
theorem dX11_trace_9 : decode cX11_trace 9 = .ok (.iconst 0, 1) := by decide +kernel
theorem dX11_trace_10 : decode cX11_trace 10 = .ok (.iaload, 1) := by decide +kernel
theorem dX11_trace_11 : decode cX11_trace 11 = .ok (.if_icmp .ge 14, 3) := by decide +kernel
theorem dX11_trace_14 : decode cX11_trace 14 = .ok (.aload_n 0, 1) := by decide +kernel
theorem dX11_trace_15 : decode cX11_trace 15 = .ok (.getfield 61, 3) := by decide +kernel
theorem dX11_trace_18 : decode cX11_trace 18 = .ok (.iload_n 1, 1) := by decide +kernel
theorem dX11_trace_19 : decode cX11_trace 19 = .ok (.iconst 1, 1) := by decide +kernel
theorem dX11_trace_20 : decode cX11_trace 20 = .ok (.iadd, 1) := by decide +kernel
theorem dX11_trace_21 : decode cX11_trace 21 = .ok (.iaload, 1) := by decide +kernel
theorem dX11_trace_22 : decode cX11_trace 22 = .ok (.goto 4, 3) := by decide +kernel
theorem dX11_trace_25 : decode cX11_trace 25 = .ok (.iconst (-1), 1) := by decide +kernel
theorem dX11_trace_26 : decode cX11_trace 26 = .ok (.ireturn, 1) := by decide +kernel
theorem dX11_sheet_0 : decode cX11_sheet 0 = .ok (.iload_n 2, 1) := by decide +kernel
theorem dX11_sheet_1 : decode cX11_sheet 1 = .ok (.iconst (-1), 1) := by decide +kernel
theorem dX11_sheet_2 : decode cX11_sheet 2 = .ok (.if_icmp .ne 7, 3) := by decide +kernel
theorem dX11_sheet_5 : decode cX11_sheet 5 = .ok (.iconst 1, 1) := by decide +kernel
theorem dX11_sheet_6 : decode cX11_sheet 6 = .ok (.goto 4, 3) := by decide +kernel
theorem dX11_sheet_9 : decode cX11_sheet 9 = .ok (.iconst 0, 1) := by decide +kernel
theorem dX11_sheet_10 : decode cX11_sheet 10 = .ok (.istore 4, 2) := by decide +kernel
theorem dX11_sheet_12 : decode cX11_sheet 12 = .ok (.iload_n 1, 1) := by decide +kernel
theorem dX11_sheet_13 : decode cX11_sheet 13 = .ok (.invokestatic 321, 3) := by decide +kernel
theorem dX11_sheet_16 : decode cX11_sheet 16 = .ok (.ifCond .eq 25, 3) := by decide +kernel
theorem dX11_sheet_19 : decode cX11_sheet 19 = .ok (.iload 4, 2) := by decide +kernel
theorem dX11_sheet_21 : decode cX11_sheet 21 = .ok (.ifCond .ne 26, 3) := by decide +kernel
theorem dX11_sheet_24 : decode cX11_sheet 24 = .ok (.iload_n 2, 1) := by decide +kernel
theorem dX11_sheet_25 : decode cX11_sheet 25 = .ok (.invokestatic 324, 3) := by decide +kernel
theorem dX11_sheet_28 : decode cX11_sheet 28 = .ok (.ifCond .eq 13, 3) := by decide +kernel
theorem dX11_sheet_31 : decode cX11_sheet 31 = .ok (.iload_n 3, 1) := by decide +kernel
theorem dX11_sheet_32 : decode cX11_sheet 32 = .ok (.ifCond .lt 9, 3) := by decide +kernel
theorem dX11_sheet_35 : decode cX11_sheet 35 = .ok (.iload_n 3, 1) := by decide +kernel
theorem dX11_sheet_36 : decode cX11_sheet 36 = .ok (.bipush 40, 2) := by decide +kernel
theorem dX11_sheet_38 : decode cX11_sheet 38 = .ok (.if_icmp .le 9, 3) := by decide +kernel
theorem dX11_sheet_41 : decode cX11_sheet 41 = .ok (.aload_n 0, 1) := by decide +kernel
theorem dX11_sheet_42 : decode cX11_sheet 42 = .ok (.iconst 1, 1) := by decide +kernel
theorem dX11_sheet_43 : decode cX11_sheet 43 = .ok (.invokevirtual 87, 3) := by decide +kernel
theorem dX11_sheet_46 : decode cX11_sheet 46 = .ok (.ireturn, 1) := by decide +kernel
theorem dX11_sheet_47 : decode cX11_sheet 47 = .ok (.aload_n 0, 1) := by decide +kernel
theorem dX11_sheet_48 : decode cX11_sheet 48 = .ok (.getfield 69, 3) := by decide +kernel
theorem dX11_sheet_51 : decode cX11_sheet 51 = .ok (.iload_n 1, 1) := by decide +kernel
theorem dX11_sheet_52 : decode cX11_sheet 52 = .ok (.iload_n 2, 1) := by decide +kernel
theorem dX11_sheet_53 : decode cX11_sheet 53 = .ok (.iastore, 1) := by decide +kernel
theorem dX11_sheet_54 : decode cX11_sheet 54 = .ok (.aload_n 0, 1) := by decide +kernel
theorem dX11_sheet_55 : decode cX11_sheet 55 = .ok (.getfield 72, 3) := by decide +kernel
theorem dX11_sheet_58 : decode cX11_sheet 58 = .ok (.iload_n 1, 1) := by decide +kernel
theorem dX11_sheet_59 : decode cX11_sheet 59 = .ok (.iload 4, 2) := by decide +kernel
theorem dX11_sheet_61 : decode cX11_sheet 61 = .ok (.ifCond .eq 7, 3) := by decide +kernel
theorem dX11_sheet_64 : decode cX11_sheet 64 = .ok (.iconst 0, 1) := by decide +kernel
theorem dX11_sheet_65 : decode cX11_sheet 65 = .ok (.goto 4, 3) := by decide +kernel
theorem dX11_sheet_68 : decode cX11_sheet 68 = .ok (.iload_n 3, 1) := by decide +kernel
theorem dX11_sheet_69 : decode cX11_sheet 69 = .ok (.iastore, 1) := by decide +kernel
theorem dX11_sheet_70 : decode cX11_sheet 70 = .ok (.aload_n 0, 1) := by decide +kernel
theorem dX11_sheet_71 : decode cX11_sheet 71 = .ok (.getfield 66, 3) := by decide +kernel
theorem dX11_sheet_74 : decode cX11_sheet 74 = .ok (.iload_n 1, 1) := by decide +kernel
theorem dX11_sheet_75 : decode cX11_sheet 75 = .ok (.aaload, 1) := by decide +kernel
theorem dX11_sheet_76 : decode cX11_sheet 76 = .ok (.iconst 0, 1) := by decide +kernel
theorem dX11_sheet_77 : decode cX11_sheet 77 = .ok (.invokestatic 327, 3) := by decide +kernel
theorem dX11_sheet_80 : decode cX11_sheet 80 = .ok (.aload_n 0, 1) := by decide +kernel
theorem dX11_sheet_81 : decode cX11_sheet 81 = .ok (.iconst 1, 1) := by decide +kernel
theorem dX11_sheet_82 : decode cX11_sheet 82 = .ok (.invokevirtual 100, 3) := by decide +kernel
theorem dX11_sheet_85 : decode cX11_sheet 85 = .ok (.ireturn, 1) := by decide +kernel
theorem dX11_cell_0 : decode cX11_cell 0 = .ok (.iload_n 1, 1) := by decide +kernel
theorem dX11_cell_1 : decode cX11_cell 1 = .ok (.invokestatic 321, 3) := by decide +kernel
theorem dX11_cell_4 : decode cX11_cell 4 = .ok (.ifCond .eq 13, 3) := by decide +kernel
theorem dX11_cell_7 : decode cX11_cell 7 = .ok (.iload_n 3, 1) := by decide +kernel
theorem dX11_cell_8 : decode cX11_cell 8 = .ok (.sipush 1000, 3) := by decide +kernel
theorem dX11_cell_11 : decode cX11_cell 11 = .ok (.invokestatic 79, 3) := by decide +kernel
theorem dX11_cell_14 : decode cX11_cell 14 = .ok (.ifCond .ne 9, 3) := by decide +kernel
theorem dX11_cell_17 : decode cX11_cell 17 = .ok (.aload_n 0, 1) := by decide +kernel
theorem dX11_cell_18 : decode cX11_cell 18 = .ok (.iconst 1, 1) := by decide +kernel
theorem dX11_cell_19 : decode cX11_cell 19 = .ok (.invokevirtual 87, 3) := by decide +kernel
theorem dX11_cell_22 : decode cX11_cell 22 = .ok (.ireturn, 1) := by decide +kernel
theorem dX11_cell_23 : decode cX11_cell 23 = .ok (.aload_n 0, 1) := by decide +kernel
theorem dX11_cell_24 : decode cX11_cell 24 = .ok (.getfield 69, 3) := by decide +kernel
theorem dX11_cell_27 : decode cX11_cell 27 = .ok (.iload_n 1, 1) := by decide +kernel
theorem dX11_cell_28 : decode cX11_cell 28 = .ok (.iaload, 1) := by decide +kernel
theorem dX11_cell_29 : decode cX11_cell 29 = .ok (.iconst (-1), 1) := by decide +kernel
theorem dX11_cell_30 : decode cX11_cell 30 = .ok (.if_icmp .ne 10, 3) := by decide +kernel
theorem dX11_cell_33 : decode cX11_cell 33 = .ok (.aload_n 0, 1) := by decide +kernel
theorem dX11_cell_34 : decode cX11_cell 34 = .ok (.bipush 10, 2) := by decide +kernel
theorem dX11_cell_36 : decode cX11_cell 36 = .ok (.invokevirtual 87, 3) := by decide +kernel
theorem dX11_cell_39 : decode cX11_cell 39 = .ok (.ireturn, 1) := by decide +kernel
theorem dX11_cell_40 : decode cX11_cell 40 = .ok (.iload_n 2, 1) := by decide +kernel
theorem dX11_cell_41 : decode cX11_cell 41 = .ok (.ifCond .lt 13, 3) := by decide +kernel
theorem dX11_cell_44 : decode cX11_cell 44 = .ok (.iload_n 2, 1) := by decide +kernel
theorem dX11_cell_45 : decode cX11_cell 45 = .ok (.aload_n 0, 1) := by decide +kernel
theorem dX11_cell_46 : decode cX11_cell 46 = .ok (.getfield 72, 3) := by decide +kernel
theorem dX11_cell_49 : decode cX11_cell 49 = .ok (.iload_n 1, 1) := by decide +kernel
theorem dX11_cell_50 : decode cX11_cell 50 = .ok (.iaload, 1) := by decide +kernel
theorem dX11_cell_51 : decode cX11_cell 51 = .ok (.if_icmp .lt 10, 3) := by decide +kernel
theorem dX11_cell_54 : decode cX11_cell 54 = .ok (.aload_n 0, 1) := by decide +kernel
theorem dX11_cell_55 : decode cX11_cell 55 = .ok (.bipush 12, 2) := by decide +kernel
theorem dX11_cell_57 : decode cX11_cell 57 = .ok (.invokevirtual 87, 3) := by decide +kernel
theorem dX11_cell_60 : decode cX11_cell 60 = .ok (.ireturn, 1) := by decide +kernel
theorem dX11_cell_61 : decode cX11_cell 61 = .ok (.aload_n 0, 1) := by decide +kernel
theorem dX11_cell_62 : decode cX11_cell 62 = .ok (.getfield 66, 3) := by decide +kernel
theorem dX11_cell_65 : decode cX11_cell 65 = .ok (.iload_n 1, 1) := by decide +kernel
theorem dX11_cell_66 : decode cX11_cell 66 = .ok (.aaload, 1) := by decide +kernel
theorem dX11_cell_67 : decode cX11_cell 67 = .ok (.iload_n 2, 1) := by decide +kernel
theorem dX11_cell_68 : decode cX11_cell 68 = .ok (.aload_n 0, 1) := by decide +kernel
theorem dX11_cell_69 : decode cX11_cell 69 = .ok (.getfield 69, 3) := by decide +kernel
theorem dX11_cell_72 : decode cX11_cell 72 = .ok (.iload_n 1, 1) := by decide +kernel
theorem dX11_cell_73 : decode cX11_cell 73 = .ok (.iaload, 1) := by decide +kernel
theorem dX11_cell_74 : decode cX11_cell 74 = .ok (.ifCond .ne 8, 3) := by decide +kernel
theorem dX11_cell_77 : decode cX11_cell 77 = .ok (.iload_n 3, 1) := by decide +kernel
theorem dX11_cell_78 : decode cX11_cell 78 = .ok (.i2b, 1) := by decide +kernel
theorem dX11_cell_79 : decode cX11_cell 79 = .ok (.goto 4, 3) := by decide +kernel
theorem dX11_cell_82 : decode cX11_cell 82 = .ok (.iload_n 3, 1) := by decide +kernel
theorem dX11_cell_83 : decode cX11_cell 83 = .ok (.iastore, 1) := by decide +kernel
theorem dX11_cell_84 : decode cX11_cell 84 = .ok (.aload_n 0, 1) := by decide +kernel
theorem dX11_cell_85 : decode cX11_cell 85 = .ok (.iconst 1, 1) := by decide +kernel
theorem dX11_cell_86 : decode cX11_cell 86 = .ok (.invokevirtual 100, 3) := by decide +kernel
theorem dX11_cell_89 : decode cX11_cell 89 = .ok (.ireturn, 1) := by decide +kernel
theorem dX11_row_0 : decode cX11_row 0 = .ok (.iload_n 1, 1) := by decide +kernel
theorem dX11_row_1 : decode cX11_row 1 = .ok (.invokestatic 321, 3) := by decide +kernel
theorem dX11_row_4 : decode cX11_row 4 = .ok (.ifCond .eq 10, 3) := by decide +kernel
theorem dX11_row_7 : decode cX11_row 7 = .ok (.iload_n 2, 1) := by decide +kernel
theorem dX11_row_8 : decode cX11_row 8 = .ok (.invokestatic 324, 3) := by decide +kernel
theorem dX11_row_11 : decode cX11_row 11 = .ok (.ifCond .ne 9, 3) := by decide +kernel
theorem dX11_row_14 : decode cX11_row 14 = .ok (.aload_n 0, 1) := by decide +kernel
theorem dX11_row_15 : decode cX11_row 15 = .ok (.iconst 1, 1) := by decide +kernel
theorem dX11_row_16 : decode cX11_row 16 = .ok (.invokevirtual 87, 3) := by decide +kernel
theorem dX11_row_19 : decode cX11_row 19 = .ok (.ireturn, 1) := by decide +kernel
theorem dX11_row_20 : decode cX11_row 20 = .ok (.aload_n 0, 1) := by decide +kernel
theorem dX11_row_21 : decode cX11_row 21 = .ok (.getfield 10, 3) := by decide +kernel
theorem dX11_row_24 : decode cX11_row 24 = .ok (.getfield 133, 3) := by decide +kernel
theorem dX11_row_27 : decode cX11_row 27 = .ok (.bipush 30, 2) := by decide +kernel
theorem dX11_row_29 : decode cX11_row 29 = .ok (.if_icmp .lt 9, 3) := by decide +kernel
theorem dX11_row_32 : decode cX11_row 32 = .ok (.aload_n 0, 1) := by decide +kernel
theorem dX11_row_33 : decode cX11_row 33 = .ok (.iconst 2, 1) := by decide +kernel
theorem dX11_row_34 : decode cX11_row 34 = .ok (.invokevirtual 87, 3) := by decide +kernel
theorem dX11_row_37 : decode cX11_row 37 = .ok (.ireturn, 1) := by decide +kernel
theorem dX11_row_38 : decode cX11_row 38 = .ok (.aload_n 0, 1) := by decide +kernel
theorem dX11_row_39 : decode cX11_row 39 = .ok (.getfield 69, 3) := by decide +kernel
theorem dX11_row_42 : decode cX11_row 42 = .ok (.iload_n 1, 1) := by decide +kernel
theorem dX11_row_43 : decode cX11_row 43 = .ok (.iaload, 1) := by decide +kernel
theorem dX11_row_44 : decode cX11_row 44 = .ok (.iconst (-1), 1) := by decide +kernel
theorem dX11_row_45 : decode cX11_row 45 = .ok (.if_icmp .ne 10, 3) := by decide +kernel
theorem dX11_row_48 : decode cX11_row 48 = .ok (.aload_n 0, 1) := by decide +kernel
theorem dX11_row_49 : decode cX11_row 49 = .ok (.bipush 10, 2) := by decide +kernel
theorem dX11_row_51 : decode cX11_row 51 = .ok (.invokevirtual 87, 3) := by decide +kernel
theorem dX11_row_54 : decode cX11_row 54 = .ok (.ireturn, 1) := by decide +kernel
theorem dX11_row_55 : decode cX11_row 55 = .ok (.aload_n 0, 1) := by decide +kernel
theorem dX11_row_56 : decode cX11_row 56 = .ok (.getfield 69, 3) := by decide +kernel
theorem dX11_row_59 : decode cX11_row 59 = .ok (.iload_n 1, 1) := by decide +kernel
theorem dX11_row_60 : decode cX11_row 60 = .ok (.iaload, 1) := by decide +kernel
theorem dX11_row_61 : decode cX11_row 61 = .ok (.iload_n 2, 1) := by decide +kernel
theorem dX11_row_62 : decode cX11_row 62 = .ok (.if_icmp .eq 10, 3) := by decide +kernel
theorem dX11_row_65 : decode cX11_row 65 = .ok (.aload_n 0, 1) := by decide +kernel
theorem dX11_row_66 : decode cX11_row 66 = .ok (.bipush 11, 2) := by decide +kernel
theorem dX11_row_68 : decode cX11_row 68 = .ok (.invokevirtual 87, 3) := by decide +kernel
theorem dX11_row_71 : decode cX11_row 71 = .ok (.ireturn, 1) := by decide +kernel
theorem dX11_row_72 : decode cX11_row 72 = .ok (.iload_n 3, 1) := by decide +kernel
theorem dX11_row_73 : decode cX11_row 73 = .ok (.ifCond .lt 15, 3) := by decide +kernel
theorem dX11_row_76 : decode cX11_row 76 = .ok (.iload_n 3, 1) := by decide +kernel
theorem dX11_row_77 : decode cX11_row 77 = .ok (.aload_n 0, 1) := by decide +kernel
theorem dX11_row_78 : decode cX11_row 78 = .ok (.getfield 72, 3) := by decide +kernel
theorem dX11_row_81 : decode cX11_row 81 = .ok (.iload_n 1, 1) := by decide +kernel
theorem dX11_row_82 : decode cX11_row 82 = .ok (.iaload, 1) := by decide +kernel
theorem dX11_row_83 : decode cX11_row 83 = .ok (.iconst 3, 1) := by decide +kernel
theorem dX11_row_84 : decode cX11_row 84 = .ok (.isub, 1) := by decide +kernel
theorem dX11_row_85 : decode cX11_row 85 = .ok (.if_icmp .le 10, 3) := by decide +kernel
theorem dX11_row_88 : decode cX11_row 88 = .ok (.aload_n 0, 1) := by decide +kernel
theorem dX11_row_89 : decode cX11_row 89 = .ok (.bipush 12, 2) := by decide +kernel
theorem dX11_row_91 : decode cX11_row 91 = .ok (.invokevirtual 87, 3) := by decide +kernel
theorem dX11_row_94 : decode cX11_row 94 = .ok (.ireturn, 1) := by decide +kernel
theorem dX11_row_95 : decode cX11_row 95 = .ok (.aload_n 0, 1) := by decide +kernel
theorem dX11_row_96 : decode cX11_row 96 = .ok (.getfield 66, 3) := by decide +kernel
theorem dX11_row_99 : decode cX11_row 99 = .ok (.iload_n 1, 1) := by decide +kernel
theorem dX11_row_100 : decode cX11_row 100 = .ok (.aaload, 1) := by decide +kernel
theorem dX11_row_101 : decode cX11_row 101 = .ok (.iload_n 3, 1) := by decide +kernel
theorem dX11_row_102 : decode cX11_row 102 = .ok (.iaload, 1) := by decide +kernel
theorem dX11_row_103 : decode cX11_row 103 = .ok (.istore 4, 2) := by decide +kernel
theorem dX11_row_105 : decode cX11_row 105 = .ok (.aload_n 0, 1) := by decide +kernel
theorem dX11_row_106 : decode cX11_row 106 = .ok (.getfield 66, 3) := by decide +kernel
theorem dX11_row_109 : decode cX11_row 109 = .ok (.iload_n 1, 1) := by decide +kernel
theorem dX11_row_110 : decode cX11_row 110 = .ok (.aaload, 1) := by decide +kernel
theorem dX11_row_111 : decode cX11_row 111 = .ok (.iload_n 3, 1) := by decide +kernel
theorem dX11_row_112 : decode cX11_row 112 = .ok (.iconst 1, 1) := by decide +kernel
theorem dX11_row_113 : decode cX11_row 113 = .ok (.iadd, 1) := by decide +kernel
theorem dX11_row_114 : decode cX11_row 114 = .ok (.iaload, 1) := by decide +kernel
theorem dX11_row_115 : decode cX11_row 115 = .ok (.istore 5, 2) := by decide +kernel
theorem dX11_row_117 : decode cX11_row 117 = .ok (.aload_n 0, 1) := by decide +kernel
theorem dX11_row_118 : decode cX11_row 118 = .ok (.getfield 66, 3) := by decide +kernel
theorem dX11_row_121 : decode cX11_row 121 = .ok (.iload_n 1, 1) := by decide +kernel
theorem dX11_row_122 : decode cX11_row 122 = .ok (.aaload, 1) := by decide +kernel
theorem dX11_row_123 : decode cX11_row 123 = .ok (.iload_n 3, 1) := by decide +kernel
theorem dX11_row_124 : decode cX11_row 124 = .ok (.iconst 2, 1) := by decide +kernel
theorem dX11_row_125 : decode cX11_row 125 = .ok (.iadd, 1) := by decide +kernel
theorem dX11_row_126 : decode cX11_row 126 = .ok (.iaload, 1) := by decide +kernel
theorem dX11_row_127 : decode cX11_row 127 = .ok (.istore 6, 2) := by decide +kernel
theorem dX11_row_129 : decode cX11_row 129 = .ok (.aload_n 0, 1) := by decide +kernel
theorem dX11_row_130 : decode cX11_row 130 = .ok (.iconst 0, 1) := by decide +kernel
theorem dX11_row_131 : decode cX11_row 131 = .ok (.iload 4, 2) := by decide +kernel
theorem dX11_row_133 : decode cX11_row 133 = .ok (.iload 6, 2) := by decide +kernel
theorem dX11_row_135 : decode cX11_row 135 = .ok (.iconst 4, 1) := by decide +kernel
theorem dX11_row_136 : decode cX11_row 136 = .ok (.ishl, 1) := by decide +kernel
theorem dX11_row_137 : decode cX11_row 137 = .ok (.iload 5, 2) := by decide +kernel
theorem dX11_row_139 : decode cX11_row 139 = .ok (.iconst (-1), 1) := by decide +kernel
theorem dX11_row_140 : decode cX11_row 140 = .ok (.invokevirtual 116, 3) := by decide +kernel
theorem dX11_row_143 : decode cX11_row 143 = .ok (.ifCond .ne 9, 3) := by decide +kernel
theorem dX11_row_146 : decode cX11_row 146 = .ok (.aload_n 0, 1) := by decide +kernel
theorem dX11_row_147 : decode cX11_row 147 = .ok (.iconst 3, 1) := by decide +kernel
theorem dX11_row_148 : decode cX11_row 148 = .ok (.invokevirtual 87, 3) := by decide +kernel
theorem dX11_row_151 : decode cX11_row 151 = .ok (.ireturn, 1) := by decide +kernel
theorem dX11_row_152 : decode cX11_row 152 = .ok (.aload_n 0, 1) := by decide +kernel
theorem dX11_row_153 : decode cX11_row 153 = .ok (.new 221, 3) := by decide +kernel
theorem dX11_row_156 : decode cX11_row 156 = .ok (.dup, 1) := by decide +kernel
theorem dX11_row_157 : decode cX11_row 157 = .ok (.iconst 0, 1) := by decide +kernel
theorem dX11_row_158 : decode cX11_row 158 = .ok (.aload_n 0, 1) := by decide +kernel
theorem dX11_row_159 : decode cX11_row 159 = .ok (.getfield 10, 3) := by decide +kernel
theorem dX11_row_162 : decode cX11_row 162 = .ok (.getfield 133, 3) := by decide +kernel
theorem dX11_row_165 : decode cX11_row 165 = .ok (.aload_n 0, 1) := by decide +kernel
theorem dX11_row_166 : decode cX11_row 166 = .ok (.getfield 48, 3) := by decide +kernel
theorem dX11_row_169 : decode cX11_row 169 = .ok (.iload 4, 2) := by decide +kernel
theorem dX11_row_171 : decode cX11_row 171 = .ok (.iload 6, 2) := by decide +kernel
theorem dX11_row_173 : decode cX11_row 173 = .ok (.iconst 4, 1) := by decide +kernel
theorem dX11_row_174 : decode cX11_row 174 = .ok (.ishl, 1) := by decide +kernel
theorem dX11_row_175 : decode cX11_row 175 = .ok (.iload 5, 2) := by decide +kernel
theorem dX11_row_177 : decode cX11_row 177 = .ok (.iconst (-1), 1) := by decide +kernel
theorem dX11_row_178 : decode cX11_row 178 = .ok (.invokespecial 333, 3) := by decide +kernel
theorem dX11_row_181 : decode cX11_row 181 = .ok (.invokevirtual 124, 3) := by decide +kernel
theorem dX11_row_184 : decode cX11_row 184 = .ok (.ireturn, 1) := by decide +kernel
theorem dX11_forge_0 : decode cX11_forge 0 = .ok (.iload_n 1, 1) := by decide +kernel
theorem dX11_forge_1 : decode cX11_forge 1 = .ok (.ifCond .lt 27, 3) := by decide +kernel
theorem dX11_forge_4 : decode cX11_forge 4 = .ok (.iload_n 1, 1) := by decide +kernel
theorem dX11_forge_5 : decode cX11_forge 5 = .ok (.bipush 6, 2) := by decide +kernel
theorem dX11_forge_7 : decode cX11_forge 7 = .ok (.if_icmp .gt 21, 3) := by decide +kernel
theorem dX11_forge_10 : decode cX11_forge 10 = .ok (.iload_n 2, 1) := by decide +kernel
theorem dX11_forge_11 : decode cX11_forge 11 = .ok (.bipush 100, 2) := by decide +kernel
theorem dX11_forge_13 : decode cX11_forge 13 = .ok (.invokestatic 79, 3) := by decide +kernel
theorem dX11_forge_16 : decode cX11_forge 16 = .ok (.ifCond .eq 12, 3) := by decide +kernel
theorem dX11_forge_19 : decode cX11_forge 19 = .ok (.iload_n 3, 1) := by decide +kernel
theorem dX11_forge_20 : decode cX11_forge 20 = .ok (.bipush 100, 2) := by decide +kernel
theorem dX11_forge_22 : decode cX11_forge 22 = .ok (.invokestatic 79, 3) := by decide +kernel
theorem dX11_forge_25 : decode cX11_forge 25 = .ok (.ifCond .ne 9, 3) := by decide +kernel
theorem dX11_forge_28 : decode cX11_forge 28 = .ok (.aload_n 0, 1) := by decide +kernel
theorem dX11_forge_29 : decode cX11_forge 29 = .ok (.iconst 1, 1) := by decide +kernel
theorem dX11_forge_30 : decode cX11_forge 30 = .ok (.invokevirtual 87, 3) := by decide +kernel
theorem dX11_forge_33 : decode cX11_forge 33 = .ok (.ireturn, 1) := by decide +kernel
theorem dX11_forge_34 : decode cX11_forge 34 = .ok (.aload_n 0, 1) := by decide +kernel
theorem dX11_forge_35 : decode cX11_forge 35 = .ok (.iload_n 3, 1) := by decide +kernel
theorem dX11_forge_36 : decode cX11_forge 36 = .ok (.bipush 30, 2) := by decide +kernel
theorem dX11_forge_38 : decode cX11_forge 38 = .ok (.invokestatic 336, 3) := by decide +kernel
theorem dX11_forge_41 : decode cX11_forge 41 = .ok (.invokevirtual 216, 3) := by decide +kernel
theorem dX11_forge_44 : decode cX11_forge 44 = .ok (.astore 4, 2) := by decide +kernel
theorem dX11_forge_46 : decode cX11_forge 46 = .ok (.iload_n 3, 1) := by decide +kernel
theorem dX11_forge_47 : decode cX11_forge 47 = .ok (.iconst 4, 1) := by decide +kernel
theorem dX11_forge_48 : decode cX11_forge 48 = .ok (.invokestatic 336, 3) := by decide +kernel
theorem dX11_forge_51 : decode cX11_forge 51 = .ok (.istore 5, 2) := by decide +kernel
theorem dX11_forge_53 : decode cX11_forge 53 = .ok (.iload_n 1, 1) := by decide +kernel
theorem dX11_forge_54 : decode cX11_forge 54 = .ok (.tableswitch 116 0 5 #[38, 51, 70, 78, 86, 93], 38) := by decide +kernel
theorem dX11_forge_92 : decode cX11_forge 92 = .ok (.aload_n 0, 1) := by decide +kernel
theorem dX11_forge_93 : decode cX11_forge 93 = .ok (.aload 4, 2) := by decide +kernel
theorem dX11_forge_95 : decode cX11_forge 95 = .ok (.iload_n 2, 1) := by decide +kernel
theorem dX11_forge_96 : decode cX11_forge 96 = .ok (.bipush 7, 2) := by decide +kernel
theorem dX11_forge_98 : decode cX11_forge 98 = .ok (.invokestatic 336, 3) := by decide +kernel
theorem dX11_forge_101 : decode cX11_forge 101 = .ok (.invokevirtual 341, 3) := by decide +kernel
theorem dX11_forge_104 : decode cX11_forge 104 = .ok (.ireturn, 1) := by decide +kernel
theorem dX11_forge_105 : decode cX11_forge 105 = .ok (.iload_n 2, 1) := by decide +kernel
theorem dX11_forge_106 : decode cX11_forge 106 = .ok (.ifCond .ge 12, 3) := by decide +kernel
theorem dX11_forge_109 : decode cX11_forge 109 = .ok (.aload_n 0, 1) := by decide +kernel
theorem dX11_forge_110 : decode cX11_forge 110 = .ok (.bipush 13, 2) := by decide +kernel
theorem dX11_forge_112 : decode cX11_forge 112 = .ok (.invokevirtual 87, 3) := by decide +kernel
theorem dX11_forge_115 : decode cX11_forge 115 = .ok (.goto 8, 3) := by decide +kernel
theorem dX11_forge_118 : decode cX11_forge 118 = .ok (.aload_n 0, 1) := by decide +kernel
theorem dX11_forge_119 : decode cX11_forge 119 = .ok (.iload_n 2, 1) := by decide +kernel
theorem dX11_forge_120 : decode cX11_forge 120 = .ok (.invokevirtual 100, 3) := by decide +kernel
theorem dX11_forge_123 : decode cX11_forge 123 = .ok (.ireturn, 1) := by decide +kernel
theorem dX11_forge_124 : decode cX11_forge 124 = .ok (.aload_n 0, 1) := by decide +kernel
theorem dX11_forge_125 : decode cX11_forge 125 = .ok (.iload 5, 2) := by decide +kernel
theorem dX11_forge_127 : decode cX11_forge 127 = .ok (.iload_n 2, 1) := by decide +kernel
theorem dX11_forge_128 : decode cX11_forge 128 = .ok (.invokevirtual 345, 3) := by decide +kernel
theorem dX11_forge_131 : decode cX11_forge 131 = .ok (.ireturn, 1) := by decide +kernel
theorem dX11_forge_132 : decode cX11_forge 132 = .ok (.aload_n 0, 1) := by decide +kernel
theorem dX11_forge_133 : decode cX11_forge 133 = .ok (.iload 5, 2) := by decide +kernel
theorem dX11_forge_135 : decode cX11_forge 135 = .ok (.iload_n 2, 1) := by decide +kernel
theorem dX11_forge_136 : decode cX11_forge 136 = .ok (.invokevirtual 348, 3) := by decide +kernel
theorem dX11_forge_139 : decode cX11_forge 139 = .ok (.ireturn, 1) := by decide +kernel
theorem dX11_forge_140 : decode cX11_forge 140 = .ok (.aload_n 0, 1) := by decide +kernel
theorem dX11_forge_141 : decode cX11_forge 141 = .ok (.aload 4, 2) := by decide +kernel
theorem dX11_forge_143 : decode cX11_forge 143 = .ok (.invokevirtual 351, 3) := by decide +kernel
theorem dX11_forge_146 : decode cX11_forge 146 = .ok (.ireturn, 1) := by decide +kernel
theorem dX11_forge_147 : decode cX11_forge 147 = .ok (.iload_n 2, 1) := by decide +kernel
theorem dX11_forge_148 : decode cX11_forge 148 = .ok (.ifCond .ne 12, 3) := by decide +kernel
theorem dX11_forge_151 : decode cX11_forge 151 = .ok (.aload_n 0, 1) := by decide +kernel
theorem dX11_forge_152 : decode cX11_forge 152 = .ok (.bipush 15, 2) := by decide +kernel
theorem dX11_forge_154 : decode cX11_forge 154 = .ok (.invokevirtual 87, 3) := by decide +kernel
theorem dX11_forge_157 : decode cX11_forge 157 = .ok (.goto 12, 3) := by decide +kernel
theorem dX11_forge_160 : decode cX11_forge 160 = .ok (.aload_n 0, 1) := by decide +kernel
theorem dX11_forge_161 : decode cX11_forge 161 = .ok (.sipush 1000, 3) := by decide +kernel
theorem dX11_forge_164 : decode cX11_forge 164 = .ok (.iload_n 2, 1) := by decide +kernel
theorem dX11_forge_165 : decode cX11_forge 165 = .ok (.idiv, 1) := by decide +kernel
theorem dX11_forge_166 : decode cX11_forge 166 = .ok (.invokevirtual 100, 3) := by decide +kernel
theorem dX11_forge_169 : decode cX11_forge 169 = .ok (.ireturn, 1) := by decide +kernel
theorem dX11_forge_170 : decode cX11_forge 170 = .ok (.iload_n 2, 1) := by decide +kernel
theorem dX11_forge_171 : decode cX11_forge 171 = .ok (.iconst 2, 1) := by decide +kernel
theorem dX11_forge_172 : decode cX11_forge 172 = .ok (.invokestatic 336, 3) := by decide +kernel
theorem dX11_forge_175 : decode cX11_forge 175 = .ok (.ifCond .ne 12, 3) := by decide +kernel
theorem dX11_forge_178 : decode cX11_forge 178 = .ok (.aload_n 0, 1) := by decide +kernel
theorem dX11_forge_179 : decode cX11_forge 179 = .ok (.bipush 10, 2) := by decide +kernel
theorem dX11_forge_181 : decode cX11_forge 181 = .ok (.invokevirtual 87, 3) := by decide +kernel
theorem dX11_forge_184 : decode cX11_forge 184 = .ok (.goto 8, 3) := by decide +kernel
theorem dX11_forge_187 : decode cX11_forge 187 = .ok (.aload_n 0, 1) := by decide +kernel
theorem dX11_forge_188 : decode cX11_forge 188 = .ok (.iconst 1, 1) := by decide +kernel
theorem dX11_forge_189 : decode cX11_forge 189 = .ok (.invokevirtual 100, 3) := by decide +kernel
theorem dX11_forge_192 : decode cX11_forge 192 = .ok (.ireturn, 1) := by decide +kernel
theorem dX11_status_0 : decode cX11_status 0 = .ok (.aload_n 0, 1) := by decide +kernel
theorem dX11_status_1 : decode cX11_status 1 = .ok (.getfield 36, 3) := by decide +kernel
theorem dX11_status_4 : decode cX11_status 4 = .ok (.ireturn, 1) := by decide +kernel
theorem dX11_done_0 : decode cX11_done 0 = .ok (.aload_n 0, 1) := by decide +kernel
theorem dX11_done_1 : decode cX11_done 1 = .ok (.iconst 0, 1) := by decide +kernel
theorem dX11_done_2 : decode cX11_done 2 = .ok (.putfield 36, 3) := by decide +kernel
theorem dX11_done_5 : decode cX11_done 5 = .ok (.iload_n 1, 1) := by decide +kernel
theorem dX11_done_6 : decode cX11_done 6 = .ok (.ireturn, 1) := by decide +kernel
theorem dX11_refused_0 : decode cX11_refused 0 = .ok (.aload_n 0, 1) := by decide +kernel
theorem dX11_refused_1 : decode cX11_refused 1 = .ok (.iload_n 1, 1) := by decide +kernel
theorem dX11_refused_2 : decode cX11_refused 2 = .ok (.putfield 36, 3) := by decide +kernel
theorem dX11_refused_5 : decode cX11_refused 5 = .ok (.iconst (-1), 1) := by decide +kernel
theorem dX11_refused_6 : decode cX11_refused 6 = .ok (.ireturn, 1) := by decide +kernel
theorem dX11_isWithin_0 : decode cX11_isWithin 0 = .ok (.iload_n 0, 1) := by decide +kernel
theorem dX11_isWithin_1 : decode cX11_isWithin 1 = .ok (.iload_n 1, 1) := by decide +kernel
theorem dX11_isWithin_2 : decode cX11_isWithin 2 = .ok (.ineg, 1) := by decide +kernel
theorem dX11_isWithin_3 : decode cX11_isWithin 3 = .ok (.if_icmp .lt 12, 3) := by decide +kernel
theorem dX11_isWithin_6 : decode cX11_isWithin 6 = .ok (.iload_n 0, 1) := by decide +kernel
theorem dX11_isWithin_7 : decode cX11_isWithin 7 = .ok (.iload_n 1, 1) := by decide +kernel
theorem dX11_isWithin_8 : decode cX11_isWithin 8 = .ok (.if_icmp .gt 7, 3) := by decide +kernel
theorem dX11_isWithin_11 : decode cX11_isWithin 11 = .ok (.iconst 1, 1) := by decide +kernel
theorem dX11_isWithin_12 : decode cX11_isWithin 12 = .ok (.goto 4, 3) := by decide +kernel
theorem dX11_isWithin_15 : decode cX11_isWithin 15 = .ok (.iconst 0, 1) := by decide +kernel
theorem dX11_isWithin_16 : decode cX11_isWithin 16 = .ok (.ireturn, 1) := by decide +kernel
theorem dX11_isChoice_0 : decode cX11_isChoice 0 = .ok (.iload_n 0, 1) := by decide +kernel
